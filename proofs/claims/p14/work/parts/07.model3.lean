theorem dX11_out_0 : decode cX11_out 0 = .ok (.aload_n 0, 1) := by decide +kernel
theorem dX11_out_1 : decode cX11_out 1 = .ok (.iconst 0, 1) := by decide +kernel
theorem dX11_out_2 : decode cX11_out 2 = .ok (.putfield 75, 3) := by decide +kernel
theorem dX11_out_5 : decode cX11_out 5 = .ok (.aload_n 0, 1) := by decide +kernel
theorem dX11_out_6 : decode cX11_out 6 = .ok (.iload_n 1, 1) := by decide +kernel
theorem dX11_out_7 : decode cX11_out 7 = .ok (.invokevirtual 171, 3) := by decide +kernel
theorem dX11_out_10 : decode cX11_out 10 = .ok (.ifCond .eq 10, 3) := by decide +kernel
theorem dX11_out_20 : decode cX11_out 20 = .ok (.iconst (-1), 1) := by decide +kernel
theorem dX11_out_13 : decode cX11_out 13 = .ok (.iload_n 2, 1) := by decide +kernel
theorem dX11_out_14 : decode cX11_out 14 = .ok (.invokestatic 239, 3) := by decide +kernel
theorem dX11_out_17 : decode cX11_out 17 = .ok (.ifCond .ne 5, 3) := by decide +kernel
theorem dX11_out_22 : decode cX11_out 22 = .ok (.aload_n 0, 1) := by decide +kernel
theorem dX11_out_23 : decode cX11_out 23 = .ok (.iload_n 1, 1) := by decide +kernel
theorem dX11_out_24 : decode cX11_out 24 = .ok (.iconst 0, 1) := by decide +kernel
theorem dX11_out_25 : decode cX11_out 25 = .ok (.iconst 1, 1) := by decide +kernel
theorem dX11_out_26 : decode cX11_out 26 = .ok (.iload_n 2, 1) := by decide +kernel
theorem dX11_out_27 : decode cX11_out 27 = .ok (.invokevirtual 246, 3) := by decide +kernel
theorem dX11_out_30 : decode cX11_out 30 = .ok (.lconst 0, 1) := by decide +kernel
theorem dX11_out_31 : decode cX11_out 31 = .ok (.lstore_n 3, 1) := by decide +kernel
theorem dX11_out_32 : decode cX11_out 32 = .ok (.iconst 0, 1) := by decide +kernel
theorem dX11_out_33 : decode cX11_out 33 = .ok (.istore 5, 2) := by decide +kernel
theorem dX11_out_35 : decode cX11_out 35 = .ok (.iload 5, 2) := by decide +kernel
theorem dX11_out_37 : decode cX11_out 37 = .ok (.bipush 75, 2) := by decide +kernel
theorem dX11_out_39 : decode cX11_out 39 = .ok (.if_icmp .ge 102, 3) := by decide +kernel
theorem dX11_out_42 : decode cX11_out 42 = .ok (.iconst 0, 1) := by decide +kernel
theorem dX11_out_43 : decode cX11_out 43 = .ok (.istore 6, 2) := by decide +kernel
theorem dX11_out_45 : decode cX11_out 45 = .ok (.iload 6, 2) := by decide +kernel
theorem dX11_out_47 : decode cX11_out 47 = .ok (.bipush 75, 2) := by decide +kernel
theorem dX11_out_49 : decode cX11_out 49 = .ok (.if_icmp .ge 86, 3) := by decide +kernel
theorem dX11_out_52 : decode cX11_out 52 = .ok (.iconst 0, 1) := by decide +kernel
theorem dX11_out_53 : decode cX11_out 53 = .ok (.istore 7, 2) := by decide +kernel
theorem dX11_out_55 : decode cX11_out 55 = .ok (.iconst 0, 1) := by decide +kernel
theorem dX11_out_56 : decode cX11_out 56 = .ok (.istore 8, 2) := by decide +kernel
theorem dX11_out_58 : decode cX11_out 58 = .ok (.iload 8, 2) := by decide +kernel
theorem dX11_out_60 : decode cX11_out 60 = .ok (.bipush 8, 2) := by decide +kernel
theorem dX11_out_62 : decode cX11_out 62 = .ok (.if_icmp .ge 48, 3) := by decide +kernel
theorem dX11_out_65 : decode cX11_out 65 = .ok (.iload 7, 2) := by decide +kernel
theorem dX11_out_67 : decode cX11_out 67 = .ok (.iconst 0, 1) := by decide +kernel
theorem dX11_out_68 : decode cX11_out 68 = .ok (.iload 5, 2) := by decide +kernel
theorem dX11_out_70 : decode cX11_out 70 = .ok (.iload 8, 2) := by decide +kernel
theorem dX11_out_72 : decode cX11_out 72 = .ok (.invokestatic 191, 3) := by decide +kernel
theorem dX11_out_75 : decode cX11_out 75 = .ok (.iadd, 1) := by decide +kernel
theorem dX11_out_76 : decode cX11_out 76 = .ok (.iload 6, 2) := by decide +kernel
theorem dX11_out_78 : decode cX11_out 78 = .ok (.iload 8, 2) := by decide +kernel
theorem dX11_out_80 : decode cX11_out 80 = .ok (.invokestatic 194, 3) := by decide +kernel
theorem dX11_out_83 : decode cX11_out 83 = .ok (.iadd, 1) := by decide +kernel
theorem dX11_out_84 : decode cX11_out 84 = .ok (.invokestatic 214, 3) := by decide +kernel
theorem dX11_out_87 : decode cX11_out 87 = .ok (.ifCond .eq 7, 3) := by decide +kernel
theorem dX11_out_94 : decode cX11_out 94 = .ok (.aload_n 0, 1) := by decide +kernel
theorem dX11_out_95 : decode cX11_out 95 = .ok (.iload_n 1, 1) := by decide +kernel
theorem dX11_out_96 : decode cX11_out 96 = .ok (.iload 8, 2) := by decide +kernel
theorem dX11_out_98 : decode cX11_out 98 = .ok (.invokevirtual 175, 3) := by decide +kernel
theorem dX11_out_101 : decode cX11_out 101 = .ok (.iadd, 1) := by decide +kernel
theorem dX11_out_102 : decode cX11_out 102 = .ok (.istore 7, 2) := by decide +kernel
theorem dX11_out_104 : decode cX11_out 104 = .ok (.iinc 8 1, 3) := by decide +kernel
theorem dX11_out_107 : decode cX11_out 107 = .ok (.goto (-49), 3) := by decide +kernel
theorem dX11_out_90 : decode cX11_out 90 = .ok (.iconst 0, 1) := by decide +kernel
theorem dX11_out_91 : decode cX11_out 91 = .ok (.goto 10, 3) := by decide +kernel
theorem dX11_out_110 : decode cX11_out 110 = .ok (.lload_n 3, 1) := by decide +kernel
theorem dX11_out_111 : decode cX11_out 111 = .ok (.aload_n 0, 1) := by decide +kernel
theorem dX11_out_112 : decode cX11_out 112 = .ok (.getfield 29, 3) := by decide +kernel
theorem dX11_out_115 : decode cX11_out 115 = .ok (.iload 5, 2) := by decide +kernel
theorem dX11_out_117 : decode cX11_out 117 = .ok (.iload 6, 2) := by decide +kernel
theorem dX11_out_119 : decode cX11_out 119 = .ok (.invokestatic 206, 3) := by decide +kernel
theorem dX11_out_122 : decode cX11_out 122 = .ok (.laload, 1) := by decide +kernel
theorem dX11_out_123 : decode cX11_out 123 = .ok (.iload 7, 2) := by decide +kernel
theorem dX11_out_125 : decode cX11_out 125 = .ok (.i2l, 1) := by decide +kernel
theorem dX11_out_126 : decode cX11_out 126 = .ok (.lmul, 1) := by decide +kernel
theorem dX11_out_127 : decode cX11_out 127 = .ok (.ladd, 1) := by decide +kernel
theorem dX11_out_128 : decode cX11_out 128 = .ok (.lstore_n 3, 1) := by decide +kernel
theorem dX11_out_129 : decode cX11_out 129 = .ok (.iinc 6 1, 3) := by decide +kernel
theorem dX11_out_132 : decode cX11_out 132 = .ok (.goto (-87), 3) := by decide +kernel
theorem dX11_out_135 : decode cX11_out 135 = .ok (.iinc 5 1, 3) := by decide +kernel
theorem dX11_out_138 : decode cX11_out 138 = .ok (.goto (-103), 3) := by decide +kernel
theorem dX11_out_141 : decode cX11_out 141 = .ok (.lload_n 3, 1) := by decide +kernel
theorem dX11_out_142 : decode cX11_out 142 = .ok (.ldc2_w 212, 3) := by decide +kernel
theorem dX11_out_145 : decode cX11_out 145 = .ok (.lrem, 1) := by decide +kernel
theorem dX11_out_146 : decode cX11_out 146 = .ok (.l2i, 1) := by decide +kernel
theorem dX11_out_147 : decode cX11_out 147 = .ok (.ireturn, 1) := by decide +kernel
theorem dX11_out_21 : decode cX11_out 21 = .ok (.ireturn, 1) := by decide +kernel
theorem dX11_arches_0 : decode cX11_arches 0 = .ok (.aload_n 0, 1) := by decide +kernel
theorem dX11_arches_1 : decode cX11_arches 1 = .ok (.iconst 0, 1) := by decide +kernel
theorem dX11_arches_2 : decode cX11_arches 2 = .ok (.putfield 75, 3) := by decide +kernel
theorem dX11_arches_5 : decode cX11_arches 5 = .ok (.aload_n 0, 1) := by decide +kernel
theorem dX11_arches_6 : decode cX11_arches 6 = .ok (.iload_n 1, 1) := by decide +kernel
theorem dX11_arches_7 : decode cX11_arches 7 = .ok (.invokevirtual 171, 3) := by decide +kernel
theorem dX11_arches_10 : decode cX11_arches 10 = .ok (.ifCond .eq 15, 3) := by decide +kernel
theorem dX11_arches_25 : decode cX11_arches 25 = .ok (.iconst (-1), 1) := by decide +kernel
theorem dX11_arches_13 : decode cX11_arches 13 = .ok (.iload_n 2, 1) := by decide +kernel
theorem dX11_arches_14 : decode cX11_arches 14 = .ok (.i2l, 1) := by decide +kernel
theorem dX11_arches_15 : decode cX11_arches 15 = .ok (.lconst 1, 1) := by decide +kernel
theorem dX11_arches_16 : decode cX11_arches 16 = .ok (.ldc2_w 237, 3) := by decide +kernel
theorem dX11_arches_19 : decode cX11_arches 19 = .ok (.invokestatic 158, 3) := by decide +kernel
theorem dX11_arches_22 : decode cX11_arches 22 = .ok (.ifCond .ne 5, 3) := by decide +kernel
theorem dX11_arches_27 : decode cX11_arches 27 = .ok (.aload_n 0, 1) := by decide +kernel
theorem dX11_arches_28 : decode cX11_arches 28 = .ok (.iload_n 1, 1) := by decide +kernel
theorem dX11_arches_29 : decode cX11_arches 29 = .ok (.iconst 1, 1) := by decide +kernel
theorem dX11_arches_30 : decode cX11_arches 30 = .ok (.iconst 0, 1) := by decide +kernel
theorem dX11_arches_31 : decode cX11_arches 31 = .ok (.iload_n 2, 1) := by decide +kernel
theorem dX11_arches_32 : decode cX11_arches 32 = .ok (.aload_n 0, 1) := by decide +kernel
theorem dX11_arches_33 : decode cX11_arches 33 = .ok (.getfield 36, 3) := by decide +kernel
theorem w_1448 : Cond.fieldLink "QuarterWalksModel" 36 "QuarterWalksModel" "term" "[I" ∈ wAll := wI6 153 (by decide +kernel) (by decide +kernel)
theorem fl_X11_36 : fl RX11 36 12 15 := ⟨RX11, TX11, 32, rfl, inA_X11, by decide, w_1448⟩
theorem dX11_arches_36 : decode cX11_arches 36 = .ok (.invokevirtual 272, 3) := by decide +kernel
theorem w_1757 : Cond.methodLink "QuarterWalksModel" 272 yX11_laysTerms ∈ wAll := wI7 222 (by decide +kernel) (by decide +kernel)
theorem w_64 : Cond.selects yX11_laysTerms.cls yX11_laysTerms yX11_laysTerms ∈ wAll := wIn 64 (by decide +kernel) (by decide +kernel)
theorem mk_X11_laysTerms : mk yX11_laysTerms 5 := ⟨by decide +kernel, w_110⟩
theorem w_1759 : Cond.instanceMethod yX11_laysTerms ∈ wAll := wI7 224 (by decide +kernel) (by decide +kernel)
theorem w_1760 : Cond.code yX11_laysTerms cX11_laysTerms 7 none ∈ wAll := wI7 225 (by decide +kernel) (by decide +kernel)
theorem dX11_arches_39 : decode cX11_arches 39 = .ok (.iconst 1, 1) := by decide +kernel
theorem dX11_arches_40 : decode cX11_arches 40 = .ok (.istore_n 3, 1) := by decide +kernel
theorem dX11_arches_41 : decode cX11_arches 41 = .ok (.iload_n 3, 1) := by decide +kernel
theorem dX11_arches_42 : decode cX11_arches 42 = .ok (.iload_n 2, 1) := by decide +kernel
theorem dX11_arches_43 : decode cX11_arches 43 = .ok (.if_icmp .gt 78, 3) := by decide +kernel
theorem dX11_arches_46 : decode cX11_arches 46 = .ok (.aload_n 0, 1) := by decide +kernel
theorem dX11_arches_47 : decode cX11_arches 47 = .ok (.getfield 36, 3) := by decide +kernel
theorem dX11_arches_50 : decode cX11_arches 50 = .ok (.iload_n 3, 1) := by decide +kernel
theorem dX11_arches_51 : decode cX11_arches 51 = .ok (.iaload, 1) := by decide +kernel
theorem dX11_arches_52 : decode cX11_arches 52 = .ok (.i2l, 1) := by decide +kernel
theorem dX11_arches_53 : decode cX11_arches 53 = .ok (.lstore 4, 2) := by decide +kernel
theorem dX11_arches_55 : decode cX11_arches 55 = .ok (.iconst 1, 1) := by decide +kernel
theorem dX11_arches_56 : decode cX11_arches 56 = .ok (.istore 6, 2) := by decide +kernel
theorem dX11_arches_58 : decode cX11_arches 58 = .ok (.iload 6, 2) := by decide +kernel
theorem dX11_arches_60 : decode cX11_arches 60 = .ok (.iload_n 3, 1) := by decide +kernel
theorem dX11_arches_61 : decode cX11_arches 61 = .ok (.if_icmp .ge 41, 3) := by decide +kernel
theorem dX11_arches_102 : decode cX11_arches 102 = .ok (.aload_n 0, 1) := by decide +kernel
theorem dX11_arches_103 : decode cX11_arches 103 = .ok (.getfield 39, 3) := by decide +kernel
theorem w_1449 : Cond.fieldLink "QuarterWalksModel" 39 "QuarterWalksModel" "other" "[I" ∈ wAll := wI6 154 (by decide +kernel) (by decide +kernel)
theorem fl_X11_39 : fl RX11 39 12 16 := ⟨RX11, TX11, 32, rfl, inA_X11, by decide, w_1449⟩
theorem dX11_arches_106 : decode cX11_arches 106 = .ok (.iload_n 3, 1) := by decide +kernel
theorem dX11_arches_107 : decode cX11_arches 107 = .ok (.lload 4, 2) := by decide +kernel
theorem dX11_arches_109 : decode cX11_arches 109 = .ok (.ldc2_w 212, 3) := by decide +kernel
theorem dX11_arches_112 : decode cX11_arches 112 = .ok (.lrem, 1) := by decide +kernel
theorem dX11_arches_113 : decode cX11_arches 113 = .ok (.l2i, 1) := by decide +kernel
theorem dX11_arches_114 : decode cX11_arches 114 = .ok (.iastore, 1) := by decide +kernel
theorem dX11_arches_115 : decode cX11_arches 115 = .ok (.iinc 3 1, 3) := by decide +kernel
theorem dX11_arches_118 : decode cX11_arches 118 = .ok (.goto (-77), 3) := by decide +kernel
theorem dX11_arches_121 : decode cX11_arches 121 = .ok (.aload_n 0, 1) := by decide +kernel
theorem dX11_arches_122 : decode cX11_arches 122 = .ok (.getfield 39, 3) := by decide +kernel
theorem dX11_arches_125 : decode cX11_arches 125 = .ok (.iload_n 2, 1) := by decide +kernel
theorem dX11_arches_126 : decode cX11_arches 126 = .ok (.iaload, 1) := by decide +kernel
theorem dX11_arches_64 : decode cX11_arches 64 = .ok (.lload 4, 2) := by decide +kernel
theorem dX11_arches_66 : decode cX11_arches 66 = .ok (.ldc_w 276, 3) := by decide +kernel
theorem w_1761 : Cond.constant "QuarterWalksModel" 276 1000003 ∈ wAll := wI7 226 (by decide +kernel) (by decide +kernel)
theorem dX11_arches_69 : decode cX11_arches 69 = .ok (.aload_n 0, 1) := by decide +kernel
theorem dX11_arches_70 : decode cX11_arches 70 = .ok (.getfield 39, 3) := by decide +kernel
theorem dX11_arches_73 : decode cX11_arches 73 = .ok (.iload 6, 2) := by decide +kernel
theorem dX11_arches_75 : decode cX11_arches 75 = .ok (.iaload, 1) := by decide +kernel
theorem dX11_arches_76 : decode cX11_arches 76 = .ok (.isub, 1) := by decide +kernel
theorem dX11_arches_77 : decode cX11_arches 77 = .ok (.i2l, 1) := by decide +kernel
theorem dX11_arches_78 : decode cX11_arches 78 = .ok (.aload_n 0, 1) := by decide +kernel
theorem dX11_arches_79 : decode cX11_arches 79 = .ok (.getfield 36, 3) := by decide +kernel
theorem dX11_arches_82 : decode cX11_arches 82 = .ok (.iload_n 3, 1) := by decide +kernel
theorem dX11_arches_83 : decode cX11_arches 83 = .ok (.iload 6, 2) := by decide +kernel
theorem dX11_arches_85 : decode cX11_arches 85 = .ok (.isub, 1) := by decide +kernel
theorem dX11_arches_86 : decode cX11_arches 86 = .ok (.iaload, 1) := by decide +kernel
theorem dX11_arches_87 : decode cX11_arches 87 = .ok (.i2l, 1) := by decide +kernel
theorem dX11_arches_88 : decode cX11_arches 88 = .ok (.lmul, 1) := by decide +kernel
theorem dX11_arches_89 : decode cX11_arches 89 = .ok (.ldc2_w 212, 3) := by decide +kernel
theorem dX11_arches_92 : decode cX11_arches 92 = .ok (.lrem, 1) := by decide +kernel
theorem dX11_arches_93 : decode cX11_arches 93 = .ok (.ladd, 1) := by decide +kernel
theorem dX11_arches_94 : decode cX11_arches 94 = .ok (.lstore 4, 2) := by decide +kernel
theorem dX11_arches_96 : decode cX11_arches 96 = .ok (.iinc 6 1, 3) := by decide +kernel
theorem dX11_arches_99 : decode cX11_arches 99 = .ok (.goto (-41), 3) := by decide +kernel
theorem dX11_arches_127 : decode cX11_arches 127 = .ok (.ireturn, 1) := by decide +kernel
theorem dX11_arches_26 : decode cX11_arches 26 = .ok (.ireturn, 1) := by decide +kernel
theorem dX11_value_0 : decode cX11_value 0 = .ok (.aload_n 0, 1) := by decide +kernel
theorem dX11_value_1 : decode cX11_value 1 = .ok (.iconst 0, 1) := by decide +kernel
theorem dX11_value_2 : decode cX11_value 2 = .ok (.putfield 75, 3) := by decide +kernel
theorem dX11_value_5 : decode cX11_value 5 = .ok (.aload_n 0, 1) := by decide +kernel
theorem dX11_value_6 : decode cX11_value 6 = .ok (.iload_n 1, 1) := by decide +kernel
theorem dX11_value_7 : decode cX11_value 7 = .ok (.invokevirtual 171, 3) := by decide +kernel
theorem dX11_value_10 : decode cX11_value 10 = .ok (.ifCond .eq 35, 3) := by decide +kernel
theorem dX11_value_45 : decode cX11_value 45 = .ok (.iconst (-1), 1) := by decide +kernel
theorem dX11_value_13 : decode cX11_value 13 = .ok (.iload_n 2, 1) := by decide +kernel
theorem dX11_value_14 : decode cX11_value 14 = .ok (.invokestatic 239, 3) := by decide +kernel
theorem dX11_value_17 : decode cX11_value 17 = .ok (.ifCond .eq 28, 3) := by decide +kernel
theorem dX11_value_20 : decode cX11_value 20 = .ok (.iload_n 3, 1) := by decide +kernel
theorem dX11_value_21 : decode cX11_value 21 = .ok (.i2l, 1) := by decide +kernel
theorem dX11_value_22 : decode cX11_value 22 = .ok (.lconst 0, 1) := by decide +kernel
theorem dX11_value_23 : decode cX11_value 23 = .ok (.ldc2_w 277, 3) := by decide +kernel
theorem dX11_value_26 : decode cX11_value 26 = .ok (.invokestatic 158, 3) := by decide +kernel
theorem dX11_value_29 : decode cX11_value 29 = .ok (.ifCond .eq 16, 3) := by decide +kernel
theorem dX11_value_32 : decode cX11_value 32 = .ok (.iload 4, 2) := by decide +kernel
theorem dX11_value_34 : decode cX11_value 34 = .ok (.i2l, 1) := by decide +kernel
theorem dX11_value_35 : decode cX11_value 35 = .ok (.lconst 0, 1) := by decide +kernel
theorem dX11_value_36 : decode cX11_value 36 = .ok (.ldc2_w 277, 3) := by decide +kernel
theorem dX11_value_39 : decode cX11_value 39 = .ok (.invokestatic 158, 3) := by decide +kernel
theorem dX11_value_42 : decode cX11_value 42 = .ok (.ifCond .ne 5, 3) := by decide +kernel
theorem dX11_value_47 : decode cX11_value 47 = .ok (.aload_n 0, 1) := by decide +kernel
theorem dX11_value_48 : decode cX11_value 48 = .ok (.iload_n 1, 1) := by decide +kernel
theorem dX11_value_49 : decode cX11_value 49 = .ok (.iconst 0, 1) := by decide +kernel
theorem dX11_value_50 : decode cX11_value 50 = .ok (.iconst 1, 1) := by decide +kernel
theorem dX11_value_51 : decode cX11_value 51 = .ok (.iload_n 2, 1) := by decide +kernel
theorem dX11_value_52 : decode cX11_value 52 = .ok (.invokevirtual 246, 3) := by decide +kernel
theorem dX11_value_55 : decode cX11_value 55 = .ok (.lconst 0, 1) := by decide +kernel
theorem dX11_value_56 : decode cX11_value 56 = .ok (.lstore 5, 2) := by decide +kernel
theorem dX11_value_58 : decode cX11_value 58 = .ok (.lconst 1, 1) := by decide +kernel
theorem dX11_value_59 : decode cX11_value 59 = .ok (.lstore 7, 2) := by decide +kernel
theorem dX11_value_61 : decode cX11_value 61 = .ok (.iconst 0, 1) := by decide +kernel
theorem dX11_value_62 : decode cX11_value 62 = .ok (.istore 9, 2) := by decide +kernel
theorem dX11_value_64 : decode cX11_value 64 = .ok (.iload 9, 2) := by decide +kernel
theorem dX11_value_66 : decode cX11_value 66 = .ok (.bipush 75, 2) := by decide +kernel
theorem dX11_value_68 : decode cX11_value 68 = .ok (.if_icmp .ge 76, 3) := by decide +kernel
theorem dX11_value_71 : decode cX11_value 71 = .ok (.lload 7, 2) := by decide +kernel
theorem dX11_value_73 : decode cX11_value 73 = .ok (.lstore 10, 2) := by decide +kernel
theorem dX11_value_75 : decode cX11_value 75 = .ok (.iconst 0, 1) := by decide +kernel
theorem dX11_value_76 : decode cX11_value 76 = .ok (.istore 12, 2) := by decide +kernel
theorem dX11_value_78 : decode cX11_value 78 = .ok (.iload 12, 2) := by decide +kernel
theorem dX11_value_80 : decode cX11_value 80 = .ok (.bipush 75, 2) := by decide +kernel
theorem dX11_value_82 : decode cX11_value 82 = .ok (.if_icmp .ge 45, 3) := by decide +kernel
theorem dX11_value_85 : decode cX11_value 85 = .ok (.lload 5, 2) := by decide +kernel
theorem dX11_value_87 : decode cX11_value 87 = .ok (.aload_n 0, 1) := by decide +kernel
theorem dX11_value_88 : decode cX11_value 88 = .ok (.getfield 29, 3) := by decide +kernel
theorem dX11_value_91 : decode cX11_value 91 = .ok (.iload 9, 2) := by decide +kernel
theorem dX11_value_93 : decode cX11_value 93 = .ok (.iload 12, 2) := by decide +kernel
theorem dX11_value_95 : decode cX11_value 95 = .ok (.invokestatic 206, 3) := by decide +kernel
theorem dX11_value_98 : decode cX11_value 98 = .ok (.laload, 1) := by decide +kernel
theorem dX11_value_99 : decode cX11_value 99 = .ok (.lload 10, 2) := by decide +kernel
theorem dX11_value_101 : decode cX11_value 101 = .ok (.lmul, 1) := by decide +kernel
theorem dX11_value_102 : decode cX11_value 102 = .ok (.ladd, 1) := by decide +kernel
theorem dX11_value_103 : decode cX11_value 103 = .ok (.ldc2_w 212, 3) := by decide +kernel
theorem dX11_value_106 : decode cX11_value 106 = .ok (.lrem, 1) := by decide +kernel
theorem dX11_value_107 : decode cX11_value 107 = .ok (.lstore 5, 2) := by decide +kernel
theorem dX11_value_109 : decode cX11_value 109 = .ok (.lload 10, 2) := by decide +kernel
theorem dX11_value_111 : decode cX11_value 111 = .ok (.iload 4, 2) := by decide +kernel
theorem dX11_value_113 : decode cX11_value 113 = .ok (.i2l, 1) := by decide +kernel
theorem dX11_value_114 : decode cX11_value 114 = .ok (.lmul, 1) := by decide +kernel
theorem dX11_value_115 : decode cX11_value 115 = .ok (.ldc2_w 212, 3) := by decide +kernel
theorem dX11_value_118 : decode cX11_value 118 = .ok (.lrem, 1) := by decide +kernel
theorem dX11_value_119 : decode cX11_value 119 = .ok (.lstore 10, 2) := by decide +kernel
theorem dX11_value_121 : decode cX11_value 121 = .ok (.iinc 12 1, 3) := by decide +kernel
theorem dX11_value_124 : decode cX11_value 124 = .ok (.goto (-46), 3) := by decide +kernel
theorem dX11_value_127 : decode cX11_value 127 = .ok (.lload 7, 2) := by decide +kernel
theorem dX11_value_129 : decode cX11_value 129 = .ok (.iload_n 3, 1) := by decide +kernel
theorem dX11_value_130 : decode cX11_value 130 = .ok (.i2l, 1) := by decide +kernel
theorem dX11_value_131 : decode cX11_value 131 = .ok (.lmul, 1) := by decide +kernel
theorem dX11_value_132 : decode cX11_value 132 = .ok (.ldc2_w 212, 3) := by decide +kernel
theorem dX11_value_135 : decode cX11_value 135 = .ok (.lrem, 1) := by decide +kernel
theorem dX11_value_136 : decode cX11_value 136 = .ok (.lstore 7, 2) := by decide +kernel
theorem dX11_value_138 : decode cX11_value 138 = .ok (.iinc 9 1, 3) := by decide +kernel
theorem dX11_value_141 : decode cX11_value 141 = .ok (.goto (-77), 3) := by decide +kernel
theorem dX11_value_144 : decode cX11_value 144 = .ok (.lload 5, 2) := by decide +kernel
theorem dX11_value_146 : decode cX11_value 146 = .ok (.l2i, 1) := by decide +kernel
theorem dX11_value_147 : decode cX11_value 147 = .ok (.ireturn, 1) := by decide +kernel
theorem dX11_value_46 : decode cX11_value 46 = .ok (.ireturn, 1) := by decide +kernel
theorem dX11_convolved_0 : decode cX11_convolved 0 = .ok (.aload_n 0, 1) := by decide +kernel
theorem dX11_convolved_1 : decode cX11_convolved 1 = .ok (.iconst 0, 1) := by decide +kernel
theorem dX11_convolved_2 : decode cX11_convolved 2 = .ok (.putfield 75, 3) := by decide +kernel
theorem dX11_convolved_5 : decode cX11_convolved 5 = .ok (.aload_n 0, 1) := by decide +kernel
theorem dX11_convolved_6 : decode cX11_convolved 6 = .ok (.iload_n 1, 1) := by decide +kernel
theorem dX11_convolved_7 : decode cX11_convolved 7 = .ok (.invokevirtual 171, 3) := by decide +kernel
theorem dX11_convolved_10 : decode cX11_convolved 10 = .ok (.ifCond .eq 44, 3) := by decide +kernel
theorem dX11_convolved_54 : decode cX11_convolved 54 = .ok (.iconst (-1), 1) := by decide +kernel
theorem dX11_convolved_13 : decode cX11_convolved 13 = .ok (.aload_n 0, 1) := by decide +kernel
theorem dX11_convolved_14 : decode cX11_convolved 14 = .ok (.iload_n 3, 1) := by decide +kernel
theorem dX11_convolved_15 : decode cX11_convolved 15 = .ok (.invokevirtual 171, 3) := by decide +kernel
theorem dX11_convolved_18 : decode cX11_convolved 18 = .ok (.ifCond .eq 36, 3) := by decide +kernel
theorem dX11_convolved_21 : decode cX11_convolved 21 = .ok (.iload_n 2, 1) := by decide +kernel
theorem dX11_convolved_22 : decode cX11_convolved 22 = .ok (.i2l, 1) := by decide +kernel
theorem dX11_convolved_23 : decode cX11_convolved 23 = .ok (.lconst 0, 1) := by decide +kernel
theorem dX11_convolved_24 : decode cX11_convolved 24 = .ok (.ldc2_w 261, 3) := by decide +kernel
theorem dX11_convolved_27 : decode cX11_convolved 27 = .ok (.invokestatic 158, 3) := by decide +kernel
theorem dX11_convolved_30 : decode cX11_convolved 30 = .ok (.ifCond .eq 24, 3) := by decide +kernel
theorem dX11_convolved_33 : decode cX11_convolved 33 = .ok (.iload 4, 2) := by decide +kernel
theorem dX11_convolved_35 : decode cX11_convolved 35 = .ok (.i2l, 1) := by decide +kernel
theorem dX11_convolved_36 : decode cX11_convolved 36 = .ok (.lconst 0, 1) := by decide +kernel
theorem dX11_convolved_37 : decode cX11_convolved 37 = .ok (.ldc2_w 261, 3) := by decide +kernel
theorem dX11_convolved_40 : decode cX11_convolved 40 = .ok (.invokestatic 158, 3) := by decide +kernel
theorem dX11_convolved_43 : decode cX11_convolved 43 = .ok (.ifCond .eq 11, 3) := by decide +kernel
theorem dX11_convolved_46 : decode cX11_convolved 46 = .ok (.iload 5, 2) := by decide +kernel
theorem dX11_convolved_48 : decode cX11_convolved 48 = .ok (.invokestatic 239, 3) := by decide +kernel
theorem dX11_convolved_51 : decode cX11_convolved 51 = .ok (.ifCond .ne 5, 3) := by decide +kernel
theorem dX11_convolved_56 : decode cX11_convolved 56 = .ok (.aload_n 0, 1) := by decide +kernel
theorem dX11_convolved_57 : decode cX11_convolved 57 = .ok (.iload_n 1, 1) := by decide +kernel
theorem dX11_convolved_58 : decode cX11_convolved 58 = .ok (.iload_n 2, 1) := by decide +kernel
theorem dX11_convolved_59 : decode cX11_convolved 59 = .ok (.iconst 0, 1) := by decide +kernel
theorem dX11_convolved_60 : decode cX11_convolved 60 = .ok (.iload 5, 2) := by decide +kernel
theorem dX11_convolved_62 : decode cX11_convolved 62 = .ok (.aload_n 0, 1) := by decide +kernel
theorem dX11_convolved_63 : decode cX11_convolved 63 = .ok (.getfield 36, 3) := by decide +kernel
theorem dX11_convolved_66 : decode cX11_convolved 66 = .ok (.invokevirtual 272, 3) := by decide +kernel
theorem dX11_convolved_69 : decode cX11_convolved 69 = .ok (.aload_n 0, 1) := by decide +kernel
theorem dX11_convolved_70 : decode cX11_convolved 70 = .ok (.iload_n 3, 1) := by decide +kernel
theorem dX11_convolved_71 : decode cX11_convolved 71 = .ok (.iload 4, 2) := by decide +kernel
theorem dX11_convolved_73 : decode cX11_convolved 73 = .ok (.iconst 0, 1) := by decide +kernel
theorem dX11_convolved_74 : decode cX11_convolved 74 = .ok (.iload 5, 2) := by decide +kernel
theorem dX11_convolved_76 : decode cX11_convolved 76 = .ok (.aload_n 0, 1) := by decide +kernel
theorem dX11_convolved_77 : decode cX11_convolved 77 = .ok (.getfield 39, 3) := by decide +kernel
theorem dX11_convolved_80 : decode cX11_convolved 80 = .ok (.invokevirtual 272, 3) := by decide +kernel
theorem dX11_convolved_83 : decode cX11_convolved 83 = .ok (.lconst 0, 1) := by decide +kernel
theorem dX11_convolved_84 : decode cX11_convolved 84 = .ok (.lstore 6, 2) := by decide +kernel
theorem dX11_convolved_86 : decode cX11_convolved 86 = .ok (.iconst 0, 1) := by decide +kernel
theorem dX11_convolved_87 : decode cX11_convolved 87 = .ok (.istore 8, 2) := by decide +kernel
theorem dX11_convolved_89 : decode cX11_convolved 89 = .ok (.iload 8, 2) := by decide +kernel
theorem dX11_convolved_91 : decode cX11_convolved 91 = .ok (.iload 5, 2) := by decide +kernel
theorem dX11_convolved_93 : decode cX11_convolved 93 = .ok (.if_icmp .gt 38, 3) := by decide +kernel
theorem dX11_convolved_96 : decode cX11_convolved 96 = .ok (.lload 6, 2) := by decide +kernel
theorem dX11_convolved_98 : decode cX11_convolved 98 = .ok (.aload_n 0, 1) := by decide +kernel
theorem dX11_convolved_99 : decode cX11_convolved 99 = .ok (.getfield 36, 3) := by decide +kernel
theorem dX11_convolved_102 : decode cX11_convolved 102 = .ok (.iload 8, 2) := by decide +kernel
theorem dX11_convolved_104 : decode cX11_convolved 104 = .ok (.iaload, 1) := by decide +kernel
theorem dX11_convolved_105 : decode cX11_convolved 105 = .ok (.i2l, 1) := by decide +kernel
theorem dX11_convolved_106 : decode cX11_convolved 106 = .ok (.aload_n 0, 1) := by decide +kernel
theorem dX11_convolved_107 : decode cX11_convolved 107 = .ok (.getfield 39, 3) := by decide +kernel
theorem dX11_convolved_110 : decode cX11_convolved 110 = .ok (.iload 5, 2) := by decide +kernel
theorem dX11_convolved_112 : decode cX11_convolved 112 = .ok (.iload 8, 2) := by decide +kernel
theorem dX11_convolved_114 : decode cX11_convolved 114 = .ok (.isub, 1) := by decide +kernel
theorem dX11_convolved_115 : decode cX11_convolved 115 = .ok (.iaload, 1) := by decide +kernel
theorem dX11_convolved_116 : decode cX11_convolved 116 = .ok (.i2l, 1) := by decide +kernel
theorem dX11_convolved_117 : decode cX11_convolved 117 = .ok (.lmul, 1) := by decide +kernel
theorem dX11_convolved_118 : decode cX11_convolved 118 = .ok (.ldc2_w 212, 3) := by decide +kernel
theorem dX11_convolved_121 : decode cX11_convolved 121 = .ok (.lrem, 1) := by decide +kernel
theorem dX11_convolved_122 : decode cX11_convolved 122 = .ok (.ladd, 1) := by decide +kernel
theorem dX11_convolved_123 : decode cX11_convolved 123 = .ok (.lstore 6, 2) := by decide +kernel
theorem dX11_convolved_125 : decode cX11_convolved 125 = .ok (.iinc 8 1, 3) := by decide +kernel
theorem dX11_convolved_128 : decode cX11_convolved 128 = .ok (.goto (-39), 3) := by decide +kernel
theorem dX11_convolved_131 : decode cX11_convolved 131 = .ok (.lload 6, 2) := by decide +kernel
theorem dX11_convolved_133 : decode cX11_convolved 133 = .ok (.ldc2_w 212, 3) := by decide +kernel
theorem dX11_convolved_136 : decode cX11_convolved 136 = .ok (.lrem, 1) := by decide +kernel
theorem dX11_convolved_137 : decode cX11_convolved 137 = .ok (.l2i, 1) := by decide +kernel
theorem dX11_convolved_138 : decode cX11_convolved 138 = .ok (.ireturn, 1) := by decide +kernel
theorem dX11_convolved_55 : decode cX11_convolved 55 = .ok (.ireturn, 1) := by decide +kernel
theorem dX11_clears_0 : decode cX11_clears 0 = .ok (.iconst 0, 1) := by decide +kernel
theorem dX11_clears_1 : decode cX11_clears 1 = .ok (.istore_n 3, 1) := by decide +kernel
theorem dX11_clears_2 : decode cX11_clears 2 = .ok (.iload_n 3, 1) := by decide +kernel
theorem dX11_clears_3 : decode cX11_clears 3 = .ok (.bipush 75, 2) := by decide +kernel
theorem dX11_clears_5 : decode cX11_clears 5 = .ok (.if_icmp .ge 48, 3) := by decide +kernel
theorem dX11_clears_8 : decode cX11_clears 8 = .ok (.iconst 0, 1) := by decide +kernel
theorem dX11_clears_9 : decode cX11_clears 9 = .ok (.istore 4, 2) := by decide +kernel
theorem dX11_clears_11 : decode cX11_clears 11 = .ok (.iload 4, 2) := by decide +kernel
theorem dX11_clears_13 : decode cX11_clears 13 = .ok (.bipush 75, 2) := by decide +kernel
theorem dX11_clears_15 : decode cX11_clears 15 = .ok (.if_icmp .ge 32, 3) := by decide +kernel
theorem dX11_clears_18 : decode cX11_clears 18 = .ok (.iload_n 3, 1) := by decide +kernel
theorem dX11_clears_19 : decode cX11_clears 19 = .ok (.iload_n 1, 1) := by decide +kernel
theorem dX11_clears_20 : decode cX11_clears 20 = .ok (.if_icmp .gt 9, 3) := by decide +kernel
theorem dX11_clears_29 : decode cX11_clears 29 = .ok (.aload_n 0, 1) := by decide +kernel
theorem dX11_clears_30 : decode cX11_clears 30 = .ok (.getfield 29, 3) := by decide +kernel
theorem dX11_clears_33 : decode cX11_clears 33 = .ok (.iload_n 3, 1) := by decide +kernel
theorem dX11_clears_34 : decode cX11_clears 34 = .ok (.iload 4, 2) := by decide +kernel
theorem dX11_clears_36 : decode cX11_clears 36 = .ok (.invokestatic 206, 3) := by decide +kernel
theorem dX11_clears_39 : decode cX11_clears 39 = .ok (.lconst 0, 1) := by decide +kernel
theorem dX11_clears_40 : decode cX11_clears 40 = .ok (.lastore, 1) := by decide +kernel
theorem dX11_clears_41 : decode cX11_clears 41 = .ok (.iinc 4 1, 3) := by decide +kernel
theorem dX11_clears_44 : decode cX11_clears 44 = .ok (.goto (-33), 3) := by decide +kernel
theorem dX11_clears_23 : decode cX11_clears 23 = .ok (.iload 4, 2) := by decide +kernel
theorem dX11_clears_25 : decode cX11_clears 25 = .ok (.iload_n 2, 1) := by decide +kernel
theorem dX11_clears_26 : decode cX11_clears 26 = .ok (.if_icmp .le 15, 3) := by decide +kernel
theorem dX11_clears_47 : decode cX11_clears 47 = .ok (.iinc 3 1, 3) := by decide +kernel
theorem dX11_clears_50 : decode cX11_clears 50 = .ok (.goto (-48), 3) := by decide +kernel
theorem dX11_clears_53 : decode cX11_clears 53 = .ok (.return_, 1) := by decide +kernel
theorem dX11_bridge_0 : decode cX11_bridge 0 = .ok (.aload_n 0, 1) := by decide +kernel
theorem dX11_bridge_1 : decode cX11_bridge 1 = .ok (.iconst 0, 1) := by decide +kernel
theorem dX11_bridge_2 : decode cX11_bridge 2 = .ok (.putfield 75, 3) := by decide +kernel
theorem dX11_bridge_5 : decode cX11_bridge 5 = .ok (.aload_n 0, 1) := by decide +kernel
theorem dX11_bridge_6 : decode cX11_bridge 6 = .ok (.iload_n 1, 1) := by decide +kernel
theorem dX11_bridge_7 : decode cX11_bridge 7 = .ok (.invokevirtual 171, 3) := by decide +kernel
theorem dX11_bridge_10 : decode cX11_bridge 10 = .ok (.ifCond .eq 19, 3) := by decide +kernel
theorem dX11_bridge_29 : decode cX11_bridge 29 = .ok (.iconst (-1), 1) := by decide +kernel
theorem dX11_bridge_13 : decode cX11_bridge 13 = .ok (.iload_n 2, 1) := by decide +kernel
theorem dX11_bridge_14 : decode cX11_bridge 14 = .ok (.invokestatic 239, 3) := by decide +kernel
theorem dX11_bridge_17 : decode cX11_bridge 17 = .ok (.ifCond .eq 12, 3) := by decide +kernel
theorem dX11_bridge_20 : decode cX11_bridge 20 = .ok (.iload_n 3, 1) := by decide +kernel
theorem dX11_bridge_21 : decode cX11_bridge 21 = .ok (.iload 4, 2) := by decide +kernel
theorem dX11_bridge_23 : decode cX11_bridge 23 = .ok (.invokestatic 242, 3) := by decide +kernel
theorem dX11_bridge_26 : decode cX11_bridge 26 = .ok (.ifCond .eq 5, 3) := by decide +kernel
theorem dX11_bridge_31 : decode cX11_bridge 31 = .ok (.aload_n 0, 1) := by decide +kernel
theorem dX11_bridge_32 : decode cX11_bridge 32 = .ok (.iload_n 1, 1) := by decide +kernel
theorem dX11_bridge_33 : decode cX11_bridge 33 = .ok (.invokevirtual 222, 3) := by decide +kernel
theorem dX11_bridge_36 : decode cX11_bridge 36 = .ok (.aload_n 0, 1) := by decide +kernel
theorem dX11_bridge_37 : decode cX11_bridge 37 = .ok (.iload_n 3, 1) := by decide +kernel
theorem dX11_bridge_38 : decode cX11_bridge 38 = .ok (.iload 4, 2) := by decide +kernel
theorem dX11_bridge_40 : decode cX11_bridge 40 = .ok (.invokevirtual 279, 3) := by decide +kernel
theorem w_1775 : Cond.methodLink "QuarterWalksModel" 279 yX11_clears ∈ wAll := wI8 0 (by decide +kernel) (by decide +kernel)
theorem w_65 : Cond.selects yX11_clears.cls yX11_clears yX11_clears ∈ wAll := wIn 65 (by decide +kernel) (by decide +kernel)
theorem mk_X11_clears : mk yX11_clears 2 := ⟨by decide +kernel, w_110⟩
theorem w_1777 : Cond.instanceMethod yX11_clears ∈ wAll := wI8 2 (by decide +kernel) (by decide +kernel)
theorem w_1778 : Cond.code yX11_clears cX11_clears 5 none ∈ wAll := wI8 3 (by decide +kernel) (by decide +kernel)
theorem dX11_bridge_43 : decode cX11_bridge 43 = .ok (.iconst 0, 1) := by decide +kernel
theorem dX11_bridge_44 : decode cX11_bridge 44 = .ok (.istore 5, 2) := by decide +kernel
theorem dX11_bridge_46 : decode cX11_bridge 46 = .ok (.iload 5, 2) := by decide +kernel
theorem dX11_bridge_48 : decode cX11_bridge 48 = .ok (.iload_n 2, 1) := by decide +kernel
theorem dX11_bridge_49 : decode cX11_bridge 49 = .ok (.if_icmp .ge 23, 3) := by decide +kernel
theorem dX11_bridge_72 : decode cX11_bridge 72 = .ok (.aload_n 0, 1) := by decide +kernel
theorem dX11_bridge_73 : decode cX11_bridge 73 = .ok (.iload_n 3, 1) := by decide +kernel
theorem dX11_bridge_74 : decode cX11_bridge 74 = .ok (.iload 4, 2) := by decide +kernel
theorem dX11_bridge_76 : decode cX11_bridge 76 = .ok (.invokevirtual 250, 3) := by decide +kernel
theorem dX11_bridge_79 : decode cX11_bridge 79 = .ok (.l2i, 1) := by decide +kernel
theorem dX11_bridge_52 : decode cX11_bridge 52 = .ok (.aload_n 0, 1) := by decide +kernel
theorem dX11_bridge_53 : decode cX11_bridge 53 = .ok (.iload_n 1, 1) := by decide +kernel
theorem dX11_bridge_54 : decode cX11_bridge 54 = .ok (.iconst 0, 1) := by decide +kernel
theorem dX11_bridge_55 : decode cX11_bridge 55 = .ok (.iconst 1, 1) := by decide +kernel
theorem dX11_bridge_56 : decode cX11_bridge 56 = .ok (.invokevirtual 225, 3) := by decide +kernel
theorem dX11_bridge_59 : decode cX11_bridge 59 = .ok (.aload_n 0, 1) := by decide +kernel
theorem dX11_bridge_60 : decode cX11_bridge 60 = .ok (.iload_n 3, 1) := by decide +kernel
theorem dX11_bridge_61 : decode cX11_bridge 61 = .ok (.iload 4, 2) := by decide +kernel
theorem dX11_bridge_63 : decode cX11_bridge 63 = .ok (.invokevirtual 279, 3) := by decide +kernel
theorem dX11_bridge_66 : decode cX11_bridge 66 = .ok (.iinc 5 1, 3) := by decide +kernel
theorem dX11_bridge_69 : decode cX11_bridge 69 = .ok (.goto (-23), 3) := by decide +kernel
theorem dX11_bridge_80 : decode cX11_bridge 80 = .ok (.ireturn, 1) := by decide +kernel
theorem dX11_bridge_30 : decode cX11_bridge 30 = .ok (.ireturn, 1) := by decide +kernel
theorem dX11_isEven_0 : decode cX11_isEven 0 = .ok (.iconst 0, 1) := by decide +kernel
theorem dX11_isEven_1 : decode cX11_isEven 1 = .ok (.istore_n 2, 1) := by decide +kernel
theorem dX11_isEven_2 : decode cX11_isEven 2 = .ok (.iload_n 2, 1) := by decide +kernel
theorem dX11_isEven_3 : decode cX11_isEven 3 = .ok (.bipush 8, 2) := by decide +kernel
theorem dX11_isEven_5 : decode cX11_isEven 5 = .ok (.if_icmp .ge 53, 3) := by decide +kernel
theorem dX11_isEven_8 : decode cX11_isEven 8 = .ok (.aload_n 0, 1) := by decide +kernel
theorem dX11_isEven_9 : decode cX11_isEven 9 = .ok (.iload_n 1, 1) := by decide +kernel
theorem dX11_isEven_10 : decode cX11_isEven 10 = .ok (.iload_n 2, 1) := by decide +kernel
theorem dX11_isEven_11 : decode cX11_isEven 11 = .ok (.invokevirtual 175, 3) := by decide +kernel
theorem dX11_isEven_14 : decode cX11_isEven 14 = .ok (.aload_n 0, 1) := by decide +kernel
theorem dX11_isEven_15 : decode cX11_isEven 15 = .ok (.iload_n 1, 1) := by decide +kernel
theorem dX11_isEven_16 : decode cX11_isEven 16 = .ok (.bipush 8, 2) := by decide +kernel
theorem dX11_isEven_18 : decode cX11_isEven 18 = .ok (.iload_n 2, 1) := by decide +kernel
theorem dX11_isEven_19 : decode cX11_isEven 19 = .ok (.isub, 1) := by decide +kernel
theorem dX11_isEven_20 : decode cX11_isEven 20 = .ok (.bipush 8, 2) := by decide +kernel
theorem dX11_isEven_22 : decode cX11_isEven 22 = .ok (.irem, 1) := by decide +kernel
theorem dX11_isEven_23 : decode cX11_isEven 23 = .ok (.invokevirtual 175, 3) := by decide +kernel
theorem dX11_isEven_26 : decode cX11_isEven 26 = .ok (.if_icmp .ne 24, 3) := by decide +kernel
theorem dX11_isEven_50 : decode cX11_isEven 50 = .ok (.iconst 0, 1) := by decide +kernel
theorem dX11_isEven_29 : decode cX11_isEven 29 = .ok (.aload_n 0, 1) := by decide +kernel
theorem dX11_isEven_30 : decode cX11_isEven 30 = .ok (.iload_n 1, 1) := by decide +kernel
theorem dX11_isEven_31 : decode cX11_isEven 31 = .ok (.iload_n 2, 1) := by decide +kernel
theorem dX11_isEven_32 : decode cX11_isEven 32 = .ok (.invokevirtual 175, 3) := by decide +kernel
theorem dX11_isEven_35 : decode cX11_isEven 35 = .ok (.aload_n 0, 1) := by decide +kernel
theorem dX11_isEven_36 : decode cX11_isEven 36 = .ok (.iload_n 1, 1) := by decide +kernel
theorem dX11_isEven_37 : decode cX11_isEven 37 = .ok (.bipush 12, 2) := by decide +kernel
theorem dX11_isEven_39 : decode cX11_isEven 39 = .ok (.iload_n 2, 1) := by decide +kernel
theorem dX11_isEven_40 : decode cX11_isEven 40 = .ok (.isub, 1) := by decide +kernel
theorem dX11_isEven_41 : decode cX11_isEven 41 = .ok (.bipush 8, 2) := by decide +kernel
theorem dX11_isEven_43 : decode cX11_isEven 43 = .ok (.irem, 1) := by decide +kernel
theorem dX11_isEven_44 : decode cX11_isEven 44 = .ok (.invokevirtual 175, 3) := by decide +kernel
theorem dX11_isEven_47 : decode cX11_isEven 47 = .ok (.if_icmp .eq 5, 3) := by decide +kernel
theorem dX11_isEven_52 : decode cX11_isEven 52 = .ok (.iinc 2 1, 3) := by decide +kernel
theorem dX11_isEven_55 : decode cX11_isEven 55 = .ok (.goto (-53), 3) := by decide +kernel
theorem dX11_isEven_58 : decode cX11_isEven 58 = .ok (.iconst 1, 1) := by decide +kernel
theorem dX11_isEven_59 : decode cX11_isEven 59 = .ok (.ireturn, 1) := by decide +kernel
theorem dX11_isEven_51 : decode cX11_isEven 51 = .ok (.ireturn, 1) := by decide +kernel
theorem dX11_reflected_0 : decode cX11_reflected 0 = .ok (.aload_n 0, 1) := by decide +kernel
theorem dX11_reflected_1 : decode cX11_reflected 1 = .ok (.iconst 0, 1) := by decide +kernel
theorem dX11_reflected_2 : decode cX11_reflected 2 = .ok (.putfield 75, 3) := by decide +kernel
theorem dX11_reflected_5 : decode cX11_reflected 5 = .ok (.aload_n 0, 1) := by decide +kernel
theorem dX11_reflected_6 : decode cX11_reflected 6 = .ok (.iload_n 1, 1) := by decide +kernel
theorem dX11_reflected_7 : decode cX11_reflected 7 = .ok (.invokevirtual 171, 3) := by decide +kernel
theorem dX11_reflected_10 : decode cX11_reflected 10 = .ok (.ifCond .eq 43, 3) := by decide +kernel
theorem dX11_reflected_53 : decode cX11_reflected 53 = .ok (.ldc_w 286, 3) := by decide +kernel
theorem w_1787 : Cond.constant "QuarterWalksModel" 286 (-1000000) ∈ wAll := wI8 12 (by decide +kernel) (by decide +kernel)
theorem dX11_reflected_13 : decode cX11_reflected 13 = .ok (.iload_n 2, 1) := by decide +kernel
theorem dX11_reflected_14 : decode cX11_reflected 14 = .ok (.invokestatic 239, 3) := by decide +kernel
theorem dX11_reflected_17 : decode cX11_reflected 17 = .ok (.ifCond .eq 36, 3) := by decide +kernel
theorem dX11_reflected_20 : decode cX11_reflected 20 = .ok (.iload_n 3, 1) := by decide +kernel
theorem dX11_reflected_21 : decode cX11_reflected 21 = .ok (.i2l, 1) := by decide +kernel
theorem dX11_reflected_22 : decode cX11_reflected 22 = .ok (.lconst 0, 1) := by decide +kernel
theorem dX11_reflected_23 : decode cX11_reflected 23 = .ok (.ldc2_w 237, 3) := by decide +kernel
theorem dX11_reflected_26 : decode cX11_reflected 26 = .ok (.invokestatic 158, 3) := by decide +kernel
theorem dX11_reflected_29 : decode cX11_reflected 29 = .ok (.ifCond .eq 24, 3) := by decide +kernel
theorem dX11_reflected_32 : decode cX11_reflected 32 = .ok (.iload 4, 2) := by decide +kernel
theorem dX11_reflected_34 : decode cX11_reflected 34 = .ok (.i2l, 1) := by decide +kernel
theorem dX11_reflected_35 : decode cX11_reflected 35 = .ok (.lconst 0, 1) := by decide +kernel
theorem dX11_reflected_36 : decode cX11_reflected 36 = .ok (.ldc2_w 237, 3) := by decide +kernel
theorem dX11_reflected_39 : decode cX11_reflected 39 = .ok (.invokestatic 158, 3) := by decide +kernel
theorem dX11_reflected_42 : decode cX11_reflected 42 = .ok (.ifCond .eq 11, 3) := by decide +kernel
theorem dX11_reflected_45 : decode cX11_reflected 45 = .ok (.aload_n 0, 1) := by decide +kernel
theorem dX11_reflected_46 : decode cX11_reflected 46 = .ok (.iload_n 1, 1) := by decide +kernel
theorem dX11_reflected_47 : decode cX11_reflected 47 = .ok (.invokevirtual 283, 3) := by decide +kernel
theorem w_1783 : Cond.methodLink "QuarterWalksModel" 283 yX11_isEven ∈ wAll := wI8 8 (by decide +kernel) (by decide +kernel)
theorem w_66 : Cond.selects yX11_isEven.cls yX11_isEven yX11_isEven ∈ wAll := wIn 66 (by decide +kernel) (by decide +kernel)
theorem mk_X11_isEven : mk yX11_isEven 1 := ⟨by decide +kernel, w_110⟩
theorem w_1785 : Cond.instanceMethod yX11_isEven ∈ wAll := wI8 10 (by decide +kernel) (by decide +kernel)
theorem w_1786 : Cond.code yX11_isEven cX11_isEven 3 (some .boolean) ∈ wAll := wI8 11 (by decide +kernel) (by decide +kernel)
theorem dX11_reflected_50 : decode cX11_reflected 50 = .ok (.ifCond .ne 7, 3) := by decide +kernel
theorem dX11_reflected_57 : decode cX11_reflected 57 = .ok (.aload_n 0, 1) := by decide +kernel
theorem dX11_reflected_58 : decode cX11_reflected 58 = .ok (.iload_n 1, 1) := by decide +kernel
theorem dX11_reflected_59 : decode cX11_reflected 59 = .ok (.iconst 2, 1) := by decide +kernel
theorem dX11_reflected_60 : decode cX11_reflected 60 = .ok (.iconst 1, 1) := by decide +kernel
theorem dX11_reflected_61 : decode cX11_reflected 61 = .ok (.iload_n 2, 1) := by decide +kernel
theorem dX11_reflected_62 : decode cX11_reflected 62 = .ok (.invokevirtual 246, 3) := by decide +kernel
theorem dX11_reflected_65 : decode cX11_reflected 65 = .ok (.aload_n 0, 1) := by decide +kernel
theorem dX11_reflected_66 : decode cX11_reflected 66 = .ok (.iload_n 3, 1) := by decide +kernel
theorem dX11_reflected_67 : decode cX11_reflected 67 = .ok (.iload 4, 2) := by decide +kernel
theorem dX11_reflected_69 : decode cX11_reflected 69 = .ok (.invokevirtual 250, 3) := by decide +kernel
theorem dX11_reflected_72 : decode cX11_reflected 72 = .ok (.aload_n 0, 1) := by decide +kernel
theorem dX11_reflected_73 : decode cX11_reflected 73 = .ok (.iload_n 3, 1) := by decide +kernel
theorem dX11_reflected_74 : decode cX11_reflected 74 = .ok (.ineg, 1) := by decide +kernel
theorem dX11_reflected_75 : decode cX11_reflected 75 = .ok (.iconst 2, 1) := by decide +kernel
theorem dX11_reflected_76 : decode cX11_reflected 76 = .ok (.isub, 1) := by decide +kernel
theorem dX11_reflected_77 : decode cX11_reflected 77 = .ok (.iload 4, 2) := by decide +kernel
theorem dX11_reflected_79 : decode cX11_reflected 79 = .ok (.ineg, 1) := by decide +kernel
theorem dX11_reflected_80 : decode cX11_reflected 80 = .ok (.iconst 2, 1) := by decide +kernel
theorem dX11_reflected_81 : decode cX11_reflected 81 = .ok (.isub, 1) := by decide +kernel
theorem dX11_reflected_82 : decode cX11_reflected 82 = .ok (.invokevirtual 250, 3) := by decide +kernel
theorem dX11_reflected_85 : decode cX11_reflected 85 = .ok (.ladd, 1) := by decide +kernel
theorem dX11_reflected_86 : decode cX11_reflected 86 = .ok (.aload_n 0, 1) := by decide +kernel
theorem dX11_reflected_87 : decode cX11_reflected 87 = .ok (.iload_n 3, 1) := by decide +kernel
theorem dX11_reflected_88 : decode cX11_reflected 88 = .ok (.ineg, 1) := by decide +kernel
theorem dX11_reflected_89 : decode cX11_reflected 89 = .ok (.iconst 2, 1) := by decide +kernel
theorem dX11_reflected_90 : decode cX11_reflected 90 = .ok (.isub, 1) := by decide +kernel
theorem dX11_reflected_91 : decode cX11_reflected 91 = .ok (.iload 4, 2) := by decide +kernel
theorem dX11_reflected_93 : decode cX11_reflected 93 = .ok (.invokevirtual 250, 3) := by decide +kernel
theorem dX11_reflected_96 : decode cX11_reflected 96 = .ok (.lsub, 1) := by decide +kernel
theorem dX11_reflected_97 : decode cX11_reflected 97 = .ok (.aload_n 0, 1) := by decide +kernel
theorem dX11_reflected_98 : decode cX11_reflected 98 = .ok (.iload_n 3, 1) := by decide +kernel
theorem dX11_reflected_99 : decode cX11_reflected 99 = .ok (.iload 4, 2) := by decide +kernel
theorem dX11_reflected_101 : decode cX11_reflected 101 = .ok (.ineg, 1) := by decide +kernel
theorem dX11_reflected_102 : decode cX11_reflected 102 = .ok (.iconst 2, 1) := by decide +kernel
theorem dX11_reflected_103 : decode cX11_reflected 103 = .ok (.isub, 1) := by decide +kernel
theorem dX11_reflected_104 : decode cX11_reflected 104 = .ok (.invokevirtual 250, 3) := by decide +kernel
theorem dX11_reflected_107 : decode cX11_reflected 107 = .ok (.lsub, 1) := by decide +kernel
theorem dX11_reflected_108 : decode cX11_reflected 108 = .ok (.lstore 5, 2) := by decide +kernel
theorem dX11_reflected_110 : decode cX11_reflected 110 = .ok (.lload 5, 2) := by decide +kernel
theorem dX11_reflected_112 : decode cX11_reflected 112 = .ok (.ldc2_w 212, 3) := by decide +kernel
theorem dX11_reflected_115 : decode cX11_reflected 115 = .ok (.invokestatic 287, 3) := by decide +kernel
theorem dX11_ranks_0 : decode cX11_ranks 0 = .ok (.iconst 0, 1) := by decide +kernel
theorem dX11_ranks_1 : decode cX11_ranks 1 = .ok (.istore_n 2, 1) := by decide +kernel
theorem dX11_ranks_2 : decode cX11_ranks 2 = .ok (.aload_n 0, 1) := by decide +kernel
theorem dX11_ranks_3 : decode cX11_ranks 3 = .ok (.lconst 1, 1) := by decide +kernel
theorem dX11_ranks_4 : decode cX11_ranks 4 = .ok (.putfield 293, 3) := by decide +kernel
theorem w_1451 : Cond.fieldLink "QuarterWalksModel" 293 "QuarterWalksModel" "determinant" "J" ∈ wAll := wI6 156 (by decide +kernel) (by decide +kernel)
theorem flw_X11_293 : flw RX11 293 12 18 (.long) := ⟨RX11, TX11, 32, tyX11, rfl, inA_X11, by decide, w_1451, tyX11_ok, nmX11, by decide +kernel, Or.inl rfl⟩
theorem dX11_ranks_7 : decode cX11_ranks 7 = .ok (.iconst 0, 1) := by decide +kernel
theorem dX11_ranks_8 : decode cX11_ranks 8 = .ok (.istore_n 3, 1) := by decide +kernel
theorem dX11_ranks_9 : decode cX11_ranks 9 = .ok (.iload_n 3, 1) := by decide +kernel
theorem dX11_ranks_10 : decode cX11_ranks 10 = .ok (.iload_n 1, 1) := by decide +kernel
theorem dX11_ranks_11 : decode cX11_ranks 11 = .ok (.if_icmp .ge 283, 3) := by decide +kernel
theorem dX11_ranks_294 : decode cX11_ranks 294 = .ok (.iload_n 2, 1) := by decide +kernel
theorem dX11_ranks_14 : decode cX11_ranks 14 = .ok (.iload_n 2, 1) := by decide +kernel
theorem dX11_ranks_15 : decode cX11_ranks 15 = .ok (.istore 4, 2) := by decide +kernel
theorem dX11_ranks_17 : decode cX11_ranks 17 = .ok (.iload 4, 2) := by decide +kernel
theorem dX11_ranks_19 : decode cX11_ranks 19 = .ok (.iload_n 1, 1) := by decide +kernel
theorem dX11_ranks_20 : decode cX11_ranks 20 = .ok (.if_icmp .ge 26, 3) := by decide +kernel
theorem dX11_ranks_23 : decode cX11_ranks 23 = .ok (.aload_n 0, 1) := by decide +kernel
theorem dX11_ranks_24 : decode cX11_ranks 24 = .ok (.getfield 42, 3) := by decide +kernel
theorem w_1450 : Cond.fieldLink "QuarterWalksModel" 42 "QuarterWalksModel" "table" "[J" ∈ wAll := wI6 155 (by decide +kernel) (by decide +kernel)
theorem fl_X11_42 : fl RX11 42 12 17 := ⟨RX11, TX11, 32, rfl, inA_X11, by decide, w_1450⟩
theorem dX11_ranks_27 : decode cX11_ranks 27 = .ok (.bipush 13, 2) := by decide +kernel
theorem dX11_ranks_29 : decode cX11_ranks 29 = .ok (.iload 4, 2) := by decide +kernel
theorem dX11_ranks_31 : decode cX11_ranks 31 = .ok (.imul, 1) := by decide +kernel
theorem dX11_ranks_32 : decode cX11_ranks 32 = .ok (.iload_n 3, 1) := by decide +kernel
theorem dX11_ranks_33 : decode cX11_ranks 33 = .ok (.iadd, 1) := by decide +kernel
theorem dX11_ranks_34 : decode cX11_ranks 34 = .ok (.laload, 1) := by decide +kernel
theorem dX11_ranks_35 : decode cX11_ranks 35 = .ok (.lconst 0, 1) := by decide +kernel
theorem dX11_ranks_36 : decode cX11_ranks 36 = .ok (.lcmp, 1) := by decide +kernel
theorem dX11_ranks_37 : decode cX11_ranks 37 = .ok (.ifCond .ne 9, 3) := by decide +kernel
theorem dX11_ranks_40 : decode cX11_ranks 40 = .ok (.iinc 4 1, 3) := by decide +kernel
theorem dX11_ranks_43 : decode cX11_ranks 43 = .ok (.goto (-26), 3) := by decide +kernel
theorem dX11_ranks_46 : decode cX11_ranks 46 = .ok (.iload 4, 2) := by decide +kernel
theorem dX11_ranks_48 : decode cX11_ranks 48 = .ok (.iload_n 1, 1) := by decide +kernel
theorem dX11_ranks_49 : decode cX11_ranks 49 = .ok (.if_icmp .ne 11, 3) := by decide +kernel
theorem dX11_ranks_60 : decode cX11_ranks 60 = .ok (.iload 4, 2) := by decide +kernel
theorem dX11_ranks_62 : decode cX11_ranks 62 = .ok (.iload_n 2, 1) := by decide +kernel
theorem dX11_ranks_63 : decode cX11_ranks 63 = .ok (.if_icmp .eq 19, 3) := by decide +kernel
theorem dX11_ranks_82 : decode cX11_ranks 82 = .ok (.iconst 0, 1) := by decide +kernel
theorem dX11_ranks_83 : decode cX11_ranks 83 = .ok (.istore 5, 2) := by decide +kernel
theorem dX11_ranks_66 : decode cX11_ranks 66 = .ok (.aload_n 0, 1) := by decide +kernel
theorem dX11_ranks_67 : decode cX11_ranks 67 = .ok (.ldc2_w 212, 3) := by decide +kernel
theorem dX11_ranks_70 : decode cX11_ranks 70 = .ok (.aload_n 0, 1) := by decide +kernel
theorem dX11_ranks_71 : decode cX11_ranks 71 = .ok (.getfield 293, 3) := by decide +kernel
theorem fl_X11_293 : fl RX11 293 12 18 := ⟨RX11, TX11, 32, rfl, inA_X11, by decide, w_1451⟩
theorem dX11_ranks_74 : decode cX11_ranks 74 = .ok (.lsub, 1) := by decide +kernel
theorem dX11_ranks_75 : decode cX11_ranks 75 = .ok (.ldc2_w 212, 3) := by decide +kernel
theorem dX11_ranks_78 : decode cX11_ranks 78 = .ok (.lrem, 1) := by decide +kernel
theorem dX11_ranks_79 : decode cX11_ranks 79 = .ok (.putfield 293, 3) := by decide +kernel
theorem dX11_ranks_52 : decode cX11_ranks 52 = .ok (.aload_n 0, 1) := by decide +kernel
theorem dX11_ranks_53 : decode cX11_ranks 53 = .ok (.lconst 0, 1) := by decide +kernel
theorem dX11_ranks_54 : decode cX11_ranks 54 = .ok (.putfield 293, 3) := by decide +kernel
theorem dX11_ranks_57 : decode cX11_ranks 57 = .ok (.goto 231, 3) := by decide +kernel
theorem dX11_ranks_288 : decode cX11_ranks 288 = .ok (.iinc 3 1, 3) := by decide +kernel
theorem dX11_ranks_291 : decode cX11_ranks 291 = .ok (.goto (-282), 3) := by decide +kernel
theorem dX11_ranks_85 : decode cX11_ranks 85 = .ok (.iload 5, 2) := by decide +kernel
theorem dX11_ranks_87 : decode cX11_ranks 87 = .ok (.iload_n 1, 1) := by decide +kernel
theorem dX11_ranks_88 : decode cX11_ranks 88 = .ok (.if_icmp .ge 63, 3) := by decide +kernel
theorem dX11_ranks_91 : decode cX11_ranks 91 = .ok (.aload_n 0, 1) := by decide +kernel
theorem dX11_ranks_92 : decode cX11_ranks 92 = .ok (.getfield 42, 3) := by decide +kernel
theorem dX11_ranks_95 : decode cX11_ranks 95 = .ok (.bipush 13, 2) := by decide +kernel
theorem dX11_ranks_97 : decode cX11_ranks 97 = .ok (.iload 4, 2) := by decide +kernel
theorem dX11_ranks_99 : decode cX11_ranks 99 = .ok (.imul, 1) := by decide +kernel
theorem dX11_ranks_100 : decode cX11_ranks 100 = .ok (.iload 5, 2) := by decide +kernel
theorem dX11_ranks_102 : decode cX11_ranks 102 = .ok (.iadd, 1) := by decide +kernel
theorem dX11_ranks_103 : decode cX11_ranks 103 = .ok (.laload, 1) := by decide +kernel
theorem dX11_ranks_104 : decode cX11_ranks 104 = .ok (.lstore 6, 2) := by decide +kernel
theorem dX11_ranks_106 : decode cX11_ranks 106 = .ok (.aload_n 0, 1) := by decide +kernel
theorem dX11_ranks_107 : decode cX11_ranks 107 = .ok (.getfield 42, 3) := by decide +kernel
theorem dX11_ranks_110 : decode cX11_ranks 110 = .ok (.bipush 13, 2) := by decide +kernel
theorem dX11_ranks_112 : decode cX11_ranks 112 = .ok (.iload 4, 2) := by decide +kernel
theorem dX11_ranks_114 : decode cX11_ranks 114 = .ok (.imul, 1) := by decide +kernel
theorem dX11_ranks_115 : decode cX11_ranks 115 = .ok (.iload 5, 2) := by decide +kernel
theorem dX11_ranks_117 : decode cX11_ranks 117 = .ok (.iadd, 1) := by decide +kernel
theorem dX11_ranks_118 : decode cX11_ranks 118 = .ok (.aload_n 0, 1) := by decide +kernel
theorem dX11_ranks_119 : decode cX11_ranks 119 = .ok (.getfield 42, 3) := by decide +kernel
theorem dX11_ranks_122 : decode cX11_ranks 122 = .ok (.bipush 13, 2) := by decide +kernel
theorem dX11_ranks_124 : decode cX11_ranks 124 = .ok (.iload_n 2, 1) := by decide +kernel
theorem dX11_ranks_125 : decode cX11_ranks 125 = .ok (.imul, 1) := by decide +kernel
theorem dX11_ranks_126 : decode cX11_ranks 126 = .ok (.iload 5, 2) := by decide +kernel
theorem dX11_ranks_128 : decode cX11_ranks 128 = .ok (.iadd, 1) := by decide +kernel
theorem dX11_ranks_129 : decode cX11_ranks 129 = .ok (.laload, 1) := by decide +kernel
theorem dX11_ranks_130 : decode cX11_ranks 130 = .ok (.lastore, 1) := by decide +kernel
theorem dX11_ranks_131 : decode cX11_ranks 131 = .ok (.aload_n 0, 1) := by decide +kernel
theorem dX11_ranks_132 : decode cX11_ranks 132 = .ok (.getfield 42, 3) := by decide +kernel
theorem dX11_ranks_135 : decode cX11_ranks 135 = .ok (.bipush 13, 2) := by decide +kernel
theorem dX11_ranks_137 : decode cX11_ranks 137 = .ok (.iload_n 2, 1) := by decide +kernel
theorem dX11_ranks_138 : decode cX11_ranks 138 = .ok (.imul, 1) := by decide +kernel
theorem dX11_ranks_139 : decode cX11_ranks 139 = .ok (.iload 5, 2) := by decide +kernel
theorem dX11_ranks_141 : decode cX11_ranks 141 = .ok (.iadd, 1) := by decide +kernel
theorem dX11_ranks_142 : decode cX11_ranks 142 = .ok (.lload 6, 2) := by decide +kernel
theorem dX11_ranks_144 : decode cX11_ranks 144 = .ok (.lastore, 1) := by decide +kernel
theorem dX11_ranks_145 : decode cX11_ranks 145 = .ok (.iinc 5 1, 3) := by decide +kernel
theorem dX11_ranks_148 : decode cX11_ranks 148 = .ok (.goto (-63), 3) := by decide +kernel
theorem dX11_ranks_151 : decode cX11_ranks 151 = .ok (.aload_n 0, 1) := by decide +kernel
theorem dX11_ranks_152 : decode cX11_ranks 152 = .ok (.getfield 42, 3) := by decide +kernel
theorem dX11_ranks_155 : decode cX11_ranks 155 = .ok (.bipush 13, 2) := by decide +kernel
theorem dX11_ranks_157 : decode cX11_ranks 157 = .ok (.iload_n 2, 1) := by decide +kernel
theorem dX11_ranks_158 : decode cX11_ranks 158 = .ok (.imul, 1) := by decide +kernel
theorem dX11_ranks_159 : decode cX11_ranks 159 = .ok (.iload_n 3, 1) := by decide +kernel
theorem dX11_ranks_160 : decode cX11_ranks 160 = .ok (.iadd, 1) := by decide +kernel
theorem dX11_ranks_161 : decode cX11_ranks 161 = .ok (.laload, 1) := by decide +kernel
theorem dX11_ranks_162 : decode cX11_ranks 162 = .ok (.lstore 5, 2) := by decide +kernel
theorem dX11_ranks_164 : decode cX11_ranks 164 = .ok (.aload_n 0, 1) := by decide +kernel
theorem dX11_ranks_165 : decode cX11_ranks 165 = .ok (.aload_n 0, 1) := by decide +kernel
theorem dX11_ranks_166 : decode cX11_ranks 166 = .ok (.getfield 293, 3) := by decide +kernel
theorem dX11_ranks_169 : decode cX11_ranks 169 = .ok (.lload 5, 2) := by decide +kernel
theorem dX11_ranks_171 : decode cX11_ranks 171 = .ok (.lmul, 1) := by decide +kernel
theorem dX11_ranks_172 : decode cX11_ranks 172 = .ok (.ldc2_w 212, 3) := by decide +kernel
theorem dX11_ranks_175 : decode cX11_ranks 175 = .ok (.lrem, 1) := by decide +kernel
theorem dX11_ranks_176 : decode cX11_ranks 176 = .ok (.putfield 293, 3) := by decide +kernel
theorem dX11_ranks_179 : decode cX11_ranks 179 = .ok (.iload_n 2, 1) := by decide +kernel
theorem dX11_ranks_180 : decode cX11_ranks 180 = .ok (.iconst 1, 1) := by decide +kernel
theorem dX11_ranks_181 : decode cX11_ranks 181 = .ok (.iadd, 1) := by decide +kernel
theorem dX11_ranks_182 : decode cX11_ranks 182 = .ok (.istore 7, 2) := by decide +kernel
theorem dX11_ranks_184 : decode cX11_ranks 184 = .ok (.iload 7, 2) := by decide +kernel
theorem dX11_ranks_186 : decode cX11_ranks 186 = .ok (.iload_n 1, 1) := by decide +kernel
theorem dX11_ranks_187 : decode cX11_ranks 187 = .ok (.if_icmp .ge 98, 3) := by decide +kernel
theorem dX11_ranks_285 : decode cX11_ranks 285 = .ok (.iinc 2 1, 3) := by decide +kernel
theorem dX11_ranks_190 : decode cX11_ranks 190 = .ok (.aload_n 0, 1) := by decide +kernel
theorem dX11_ranks_191 : decode cX11_ranks 191 = .ok (.getfield 42, 3) := by decide +kernel
theorem dX11_ranks_194 : decode cX11_ranks 194 = .ok (.bipush 13, 2) := by decide +kernel
theorem dX11_ranks_196 : decode cX11_ranks 196 = .ok (.iload 7, 2) := by decide +kernel
theorem dX11_ranks_198 : decode cX11_ranks 198 = .ok (.imul, 1) := by decide +kernel
theorem dX11_ranks_199 : decode cX11_ranks 199 = .ok (.iload_n 3, 1) := by decide +kernel
theorem dX11_ranks_200 : decode cX11_ranks 200 = .ok (.iadd, 1) := by decide +kernel
theorem dX11_ranks_201 : decode cX11_ranks 201 = .ok (.laload, 1) := by decide +kernel
theorem dX11_ranks_202 : decode cX11_ranks 202 = .ok (.lload 5, 2) := by decide +kernel
theorem dX11_ranks_204 : decode cX11_ranks 204 = .ok (.invokestatic 297, 3) := by decide +kernel
theorem dX11_ranks_207 : decode cX11_ranks 207 = .ok (.lmul, 1) := by decide +kernel
theorem dX11_ranks_208 : decode cX11_ranks 208 = .ok (.ldc2_w 212, 3) := by decide +kernel
theorem dX11_ranks_211 : decode cX11_ranks 211 = .ok (.lrem, 1) := by decide +kernel
theorem dX11_ranks_212 : decode cX11_ranks 212 = .ok (.lstore 8, 2) := by decide +kernel
theorem dX11_ranks_214 : decode cX11_ranks 214 = .ok (.iconst 0, 1) := by decide +kernel
theorem dX11_ranks_215 : decode cX11_ranks 215 = .ok (.istore 10, 2) := by decide +kernel
theorem dX11_ranks_217 : decode cX11_ranks 217 = .ok (.iload 10, 2) := by decide +kernel
theorem dX11_ranks_219 : decode cX11_ranks 219 = .ok (.iload_n 1, 1) := by decide +kernel
theorem dX11_ranks_220 : decode cX11_ranks 220 = .ok (.if_icmp .ge 59, 3) := by decide +kernel
theorem dX11_ranks_223 : decode cX11_ranks 223 = .ok (.aload_n 0, 1) := by decide +kernel
theorem dX11_ranks_224 : decode cX11_ranks 224 = .ok (.getfield 42, 3) := by decide +kernel
theorem dX11_ranks_227 : decode cX11_ranks 227 = .ok (.bipush 13, 2) := by decide +kernel
theorem dX11_ranks_229 : decode cX11_ranks 229 = .ok (.iload 7, 2) := by decide +kernel
theorem dX11_ranks_231 : decode cX11_ranks 231 = .ok (.imul, 1) := by decide +kernel
theorem dX11_ranks_232 : decode cX11_ranks 232 = .ok (.iload 10, 2) := by decide +kernel
theorem dX11_ranks_234 : decode cX11_ranks 234 = .ok (.iadd, 1) := by decide +kernel
theorem dX11_ranks_235 : decode cX11_ranks 235 = .ok (.aload_n 0, 1) := by decide +kernel
theorem dX11_ranks_236 : decode cX11_ranks 236 = .ok (.getfield 42, 3) := by decide +kernel
theorem dX11_ranks_239 : decode cX11_ranks 239 = .ok (.bipush 13, 2) := by decide +kernel
theorem dX11_ranks_241 : decode cX11_ranks 241 = .ok (.iload 7, 2) := by decide +kernel
theorem dX11_ranks_243 : decode cX11_ranks 243 = .ok (.imul, 1) := by decide +kernel
theorem dX11_ranks_244 : decode cX11_ranks 244 = .ok (.iload 10, 2) := by decide +kernel
theorem dX11_ranks_246 : decode cX11_ranks 246 = .ok (.iadd, 1) := by decide +kernel
theorem dX11_ranks_247 : decode cX11_ranks 247 = .ok (.laload, 1) := by decide +kernel
theorem dX11_ranks_248 : decode cX11_ranks 248 = .ok (.ldc2_w 212, 3) := by decide +kernel
theorem dX11_ranks_251 : decode cX11_ranks 251 = .ok (.lload 8, 2) := by decide +kernel
theorem dX11_ranks_253 : decode cX11_ranks 253 = .ok (.lsub, 1) := by decide +kernel
theorem dX11_ranks_254 : decode cX11_ranks 254 = .ok (.aload_n 0, 1) := by decide +kernel
theorem dX11_ranks_255 : decode cX11_ranks 255 = .ok (.getfield 42, 3) := by decide +kernel
theorem dX11_ranks_258 : decode cX11_ranks 258 = .ok (.bipush 13, 2) := by decide +kernel
theorem dX11_ranks_260 : decode cX11_ranks 260 = .ok (.iload_n 2, 1) := by decide +kernel
theorem dX11_ranks_261 : decode cX11_ranks 261 = .ok (.imul, 1) := by decide +kernel
theorem dX11_ranks_262 : decode cX11_ranks 262 = .ok (.iload 10, 2) := by decide +kernel
theorem dX11_ranks_264 : decode cX11_ranks 264 = .ok (.iadd, 1) := by decide +kernel
theorem dX11_ranks_265 : decode cX11_ranks 265 = .ok (.laload, 1) := by decide +kernel
theorem dX11_ranks_266 : decode cX11_ranks 266 = .ok (.lmul, 1) := by decide +kernel
theorem dX11_ranks_267 : decode cX11_ranks 267 = .ok (.ladd, 1) := by decide +kernel
theorem dX11_ranks_268 : decode cX11_ranks 268 = .ok (.ldc2_w 212, 3) := by decide +kernel
theorem dX11_ranks_271 : decode cX11_ranks 271 = .ok (.lrem, 1) := by decide +kernel
theorem dX11_ranks_272 : decode cX11_ranks 272 = .ok (.lastore, 1) := by decide +kernel
theorem dX11_ranks_273 : decode cX11_ranks 273 = .ok (.iinc 10 1, 3) := by decide +kernel
theorem dX11_ranks_276 : decode cX11_ranks 276 = .ok (.goto (-59), 3) := by decide +kernel
theorem dX11_ranks_279 : decode cX11_ranks 279 = .ok (.iinc 7 1, 3) := by decide +kernel
theorem dX11_ranks_282 : decode cX11_ranks 282 = .ok (.goto (-98), 3) := by decide +kernel
theorem dX11_ranks_295 : decode cX11_ranks 295 = .ok (.ireturn, 1) := by decide +kernel
theorem dX11_hankel_0 : decode cX11_hankel 0 = .ok (.aload_n 0, 1) := by decide +kernel
theorem dX11_hankel_1 : decode cX11_hankel 1 = .ok (.iconst 0, 1) := by decide +kernel
theorem dX11_hankel_2 : decode cX11_hankel 2 = .ok (.putfield 75, 3) := by decide +kernel
theorem dX11_hankel_5 : decode cX11_hankel 5 = .ok (.aload_n 0, 1) := by decide +kernel
theorem dX11_hankel_6 : decode cX11_hankel 6 = .ok (.iload_n 1, 1) := by decide +kernel
theorem dX11_hankel_7 : decode cX11_hankel 7 = .ok (.invokevirtual 171, 3) := by decide +kernel
theorem dX11_hankel_10 : decode cX11_hankel 10 = .ok (.ifCond .eq 27, 3) := by decide +kernel
theorem dX11_hankel_37 : decode cX11_hankel 37 = .ok (.iconst (-1), 1) := by decide +kernel
theorem dX11_hankel_13 : decode cX11_hankel 13 = .ok (.iload_n 2, 1) := by decide +kernel
theorem dX11_hankel_14 : decode cX11_hankel 14 = .ok (.i2l, 1) := by decide +kernel
theorem dX11_hankel_15 : decode cX11_hankel 15 = .ok (.lconst 0, 1) := by decide +kernel
theorem dX11_hankel_16 : decode cX11_hankel 16 = .ok (.ldc2_w 261, 3) := by decide +kernel
theorem dX11_hankel_19 : decode cX11_hankel 19 = .ok (.invokestatic 158, 3) := by decide +kernel
theorem dX11_hankel_22 : decode cX11_hankel 22 = .ok (.ifCond .eq 15, 3) := by decide +kernel
theorem dX11_hankel_25 : decode cX11_hankel 25 = .ok (.iload_n 3, 1) := by decide +kernel
theorem dX11_hankel_26 : decode cX11_hankel 26 = .ok (.i2l, 1) := by decide +kernel
theorem dX11_hankel_27 : decode cX11_hankel 27 = .ok (.lconst 1, 1) := by decide +kernel
theorem dX11_hankel_28 : decode cX11_hankel 28 = .ok (.ldc2_w 301, 3) := by decide +kernel
theorem w_1795 : Cond.constantLong "QuarterWalksModel" 301 8 ∈ wAll := wI8 20 (by decide +kernel) (by decide +kernel)
theorem dX11_hankel_31 : decode cX11_hankel 31 = .ok (.invokestatic 158, 3) := by decide +kernel
theorem dX11_hankel_34 : decode cX11_hankel 34 = .ok (.ifCond .ne 5, 3) := by decide +kernel
theorem dX11_hankel_39 : decode cX11_hankel 39 = .ok (.aload_n 0, 1) := by decide +kernel
theorem dX11_hankel_40 : decode cX11_hankel 40 = .ok (.iload_n 1, 1) := by decide +kernel
theorem dX11_hankel_41 : decode cX11_hankel 41 = .ok (.iload_n 2, 1) := by decide +kernel
theorem dX11_hankel_42 : decode cX11_hankel 42 = .ok (.iconst 0, 1) := by decide +kernel
theorem dX11_hankel_43 : decode cX11_hankel 43 = .ok (.iconst 2, 1) := by decide +kernel
theorem dX11_hankel_44 : decode cX11_hankel 44 = .ok (.iload_n 3, 1) := by decide +kernel
theorem dX11_hankel_45 : decode cX11_hankel 45 = .ok (.imul, 1) := by decide +kernel
theorem dX11_hankel_46 : decode cX11_hankel 46 = .ok (.iconst 2, 1) := by decide +kernel
theorem dX11_hankel_47 : decode cX11_hankel 47 = .ok (.isub, 1) := by decide +kernel
theorem dX11_hankel_48 : decode cX11_hankel 48 = .ok (.aload_n 0, 1) := by decide +kernel
theorem dX11_hankel_49 : decode cX11_hankel 49 = .ok (.getfield 36, 3) := by decide +kernel
theorem dX11_hankel_52 : decode cX11_hankel 52 = .ok (.invokevirtual 272, 3) := by decide +kernel
theorem dX11_hankel_55 : decode cX11_hankel 55 = .ok (.iconst 0, 1) := by decide +kernel
theorem dX11_hankel_56 : decode cX11_hankel 56 = .ok (.istore 4, 2) := by decide +kernel
theorem dX11_hankel_58 : decode cX11_hankel 58 = .ok (.iload 4, 2) := by decide +kernel
theorem dX11_hankel_60 : decode cX11_hankel 60 = .ok (.iload_n 3, 1) := by decide +kernel
theorem dX11_hankel_61 : decode cX11_hankel 61 = .ok (.if_icmp .ge 48, 3) := by decide +kernel
theorem dX11_hankel_64 : decode cX11_hankel 64 = .ok (.iconst 0, 1) := by decide +kernel
theorem dX11_hankel_65 : decode cX11_hankel 65 = .ok (.istore 5, 2) := by decide +kernel
theorem dX11_hankel_67 : decode cX11_hankel 67 = .ok (.iload 5, 2) := by decide +kernel
theorem dX11_hankel_69 : decode cX11_hankel 69 = .ok (.iload_n 3, 1) := by decide +kernel
theorem dX11_hankel_70 : decode cX11_hankel 70 = .ok (.if_icmp .ge 33, 3) := by decide +kernel
theorem dX11_hankel_73 : decode cX11_hankel 73 = .ok (.aload_n 0, 1) := by decide +kernel
theorem dX11_hankel_74 : decode cX11_hankel 74 = .ok (.getfield 42, 3) := by decide +kernel
theorem dX11_hankel_77 : decode cX11_hankel 77 = .ok (.bipush 13, 2) := by decide +kernel
theorem dX11_hankel_79 : decode cX11_hankel 79 = .ok (.iload 4, 2) := by decide +kernel
theorem dX11_hankel_81 : decode cX11_hankel 81 = .ok (.imul, 1) := by decide +kernel
theorem dX11_hankel_82 : decode cX11_hankel 82 = .ok (.iload 5, 2) := by decide +kernel
theorem dX11_hankel_84 : decode cX11_hankel 84 = .ok (.iadd, 1) := by decide +kernel
theorem dX11_hankel_85 : decode cX11_hankel 85 = .ok (.aload_n 0, 1) := by decide +kernel
theorem dX11_hankel_86 : decode cX11_hankel 86 = .ok (.getfield 36, 3) := by decide +kernel
theorem dX11_hankel_89 : decode cX11_hankel 89 = .ok (.iload 4, 2) := by decide +kernel
theorem dX11_hankel_91 : decode cX11_hankel 91 = .ok (.iload 5, 2) := by decide +kernel
theorem dX11_hankel_93 : decode cX11_hankel 93 = .ok (.iadd, 1) := by decide +kernel
theorem dX11_hankel_94 : decode cX11_hankel 94 = .ok (.iaload, 1) := by decide +kernel
theorem dX11_hankel_95 : decode cX11_hankel 95 = .ok (.i2l, 1) := by decide +kernel
theorem dX11_hankel_96 : decode cX11_hankel 96 = .ok (.lastore, 1) := by decide +kernel
theorem dX11_hankel_97 : decode cX11_hankel 97 = .ok (.iinc 5 1, 3) := by decide +kernel
theorem dX11_hankel_100 : decode cX11_hankel 100 = .ok (.goto (-33), 3) := by decide +kernel
theorem dX11_hankel_103 : decode cX11_hankel 103 = .ok (.iinc 4 1, 3) := by decide +kernel
theorem dX11_hankel_106 : decode cX11_hankel 106 = .ok (.goto (-48), 3) := by decide +kernel
theorem dX11_hankel_109 : decode cX11_hankel 109 = .ok (.aload_n 0, 1) := by decide +kernel
theorem dX11_hankel_110 : decode cX11_hankel 110 = .ok (.iload_n 3, 1) := by decide +kernel
theorem dX11_hankel_111 : decode cX11_hankel 111 = .ok (.invokevirtual 303, 3) := by decide +kernel
theorem w_1796 : Cond.methodLink "QuarterWalksModel" 303 yX11_ranks ∈ wAll := wI8 21 (by decide +kernel) (by decide +kernel)
theorem w_67 : Cond.selects yX11_ranks.cls yX11_ranks yX11_ranks ∈ wAll := wIn 67 (by decide +kernel) (by decide +kernel)
theorem mk_X11_ranks : mk yX11_ranks 1 := ⟨by decide +kernel, w_110⟩
theorem w_1798 : Cond.instanceMethod yX11_ranks ∈ wAll := wI8 23 (by decide +kernel) (by decide +kernel)
theorem w_1799 : Cond.code yX11_ranks cX11_ranks 11 (some .int) ∈ wAll := wI8 24 (by decide +kernel) (by decide +kernel)
theorem dX11_hankel_114 : decode cX11_hankel 114 = .ok (.istore 4, 2) := by decide +kernel
theorem dX11_hankel_116 : decode cX11_hankel 116 = .ok (.iload 4, 2) := by decide +kernel
theorem dX11_hankel_118 : decode cX11_hankel 118 = .ok (.iload_n 3, 1) := by decide +kernel
theorem dX11_hankel_119 : decode cX11_hankel 119 = .ok (.if_icmp .ge 7, 3) := by decide +kernel
theorem dX11_hankel_126 : decode cX11_hankel 126 = .ok (.aload_n 0, 1) := by decide +kernel
theorem dX11_hankel_127 : decode cX11_hankel 127 = .ok (.getfield 293, 3) := by decide +kernel
theorem dX11_hankel_130 : decode cX11_hankel 130 = .ok (.l2i, 1) := by decide +kernel
theorem dX11_hankel_122 : decode cX11_hankel 122 = .ok (.iconst 0, 1) := by decide +kernel
theorem dX11_hankel_123 : decode cX11_hankel 123 = .ok (.goto 8, 3) := by decide +kernel
theorem dX11_hankel_131 : decode cX11_hankel 131 = .ok (.ireturn, 1) := by decide +kernel
theorem dX11_hankel_38 : decode cX11_hankel 38 = .ok (.ireturn, 1) := by decide +kernel
theorem dX11_rank_0 : decode cX11_rank 0 = .ok (.aload_n 0, 1) := by decide +kernel
theorem dX11_rank_1 : decode cX11_rank 1 = .ok (.iconst 0, 1) := by decide +kernel
theorem dX11_rank_2 : decode cX11_rank 2 = .ok (.putfield 75, 3) := by decide +kernel
theorem dX11_rank_5 : decode cX11_rank 5 = .ok (.aload_n 0, 1) := by decide +kernel
theorem dX11_rank_6 : decode cX11_rank 6 = .ok (.iload_n 1, 1) := by decide +kernel
theorem dX11_rank_7 : decode cX11_rank 7 = .ok (.invokevirtual 171, 3) := by decide +kernel
theorem dX11_rank_10 : decode cX11_rank 10 = .ok (.ifCond .eq 15, 3) := by decide +kernel
theorem dX11_rank_25 : decode cX11_rank 25 = .ok (.iconst (-1), 1) := by decide +kernel
theorem dX11_rank_13 : decode cX11_rank 13 = .ok (.iload_n 2, 1) := by decide +kernel
theorem dX11_rank_14 : decode cX11_rank 14 = .ok (.i2l, 1) := by decide +kernel
theorem dX11_rank_15 : decode cX11_rank 15 = .ok (.lconst 0, 1) := by decide +kernel
theorem dX11_rank_16 : decode cX11_rank 16 = .ok (.ldc2_w 306, 3) := by decide +kernel
theorem w_1811 : Cond.constantLong "QuarterWalksModel" 306 12 ∈ wAll := wI8 36 (by decide +kernel) (by decide +kernel)
theorem dX11_rank_19 : decode cX11_rank 19 = .ok (.invokestatic 158, 3) := by decide +kernel
theorem dX11_rank_22 : decode cX11_rank 22 = .ok (.ifCond .ne 5, 3) := by decide +kernel
theorem dX11_rank_27 : decode cX11_rank 27 = .ok (.aload_n 0, 1) := by decide +kernel
theorem dX11_rank_28 : decode cX11_rank 28 = .ok (.iload_n 1, 1) := by decide +kernel
theorem dX11_rank_29 : decode cX11_rank 29 = .ok (.iconst 0, 1) := by decide +kernel
theorem dX11_rank_30 : decode cX11_rank 30 = .ok (.iconst 1, 1) := by decide +kernel
theorem dX11_rank_31 : decode cX11_rank 31 = .ok (.iload_n 2, 1) := by decide +kernel
theorem dX11_rank_32 : decode cX11_rank 32 = .ok (.invokevirtual 246, 3) := by decide +kernel
theorem dX11_rank_35 : decode cX11_rank 35 = .ok (.iconst 0, 1) := by decide +kernel
theorem dX11_rank_36 : decode cX11_rank 36 = .ok (.istore_n 3, 1) := by decide +kernel
theorem dX11_rank_37 : decode cX11_rank 37 = .ok (.iload_n 3, 1) := by decide +kernel
theorem dX11_rank_38 : decode cX11_rank 38 = .ok (.bipush 13, 2) := by decide +kernel
theorem dX11_rank_40 : decode cX11_rank 40 = .ok (.if_icmp .ge 48, 3) := by decide +kernel
theorem dX11_rank_43 : decode cX11_rank 43 = .ok (.iconst 0, 1) := by decide +kernel
theorem dX11_rank_44 : decode cX11_rank 44 = .ok (.istore 4, 2) := by decide +kernel
theorem dX11_rank_46 : decode cX11_rank 46 = .ok (.iload 4, 2) := by decide +kernel
theorem dX11_rank_48 : decode cX11_rank 48 = .ok (.bipush 13, 2) := by decide +kernel
theorem dX11_rank_50 : decode cX11_rank 50 = .ok (.if_icmp .ge 32, 3) := by decide +kernel
theorem dX11_rank_53 : decode cX11_rank 53 = .ok (.aload_n 0, 1) := by decide +kernel
theorem dX11_rank_54 : decode cX11_rank 54 = .ok (.getfield 42, 3) := by decide +kernel
theorem dX11_rank_57 : decode cX11_rank 57 = .ok (.bipush 13, 2) := by decide +kernel
theorem dX11_rank_59 : decode cX11_rank 59 = .ok (.iload_n 3, 1) := by decide +kernel
theorem dX11_rank_60 : decode cX11_rank 60 = .ok (.imul, 1) := by decide +kernel
theorem dX11_rank_61 : decode cX11_rank 61 = .ok (.iload 4, 2) := by decide +kernel
theorem dX11_rank_63 : decode cX11_rank 63 = .ok (.iadd, 1) := by decide +kernel
theorem dX11_rank_64 : decode cX11_rank 64 = .ok (.aload_n 0, 1) := by decide +kernel
theorem dX11_rank_65 : decode cX11_rank 65 = .ok (.getfield 29, 3) := by decide +kernel
theorem dX11_rank_68 : decode cX11_rank 68 = .ok (.iload_n 3, 1) := by decide +kernel
theorem dX11_rank_69 : decode cX11_rank 69 = .ok (.iload 4, 2) := by decide +kernel
theorem dX11_rank_71 : decode cX11_rank 71 = .ok (.invokestatic 206, 3) := by decide +kernel
theorem dX11_rank_74 : decode cX11_rank 74 = .ok (.laload, 1) := by decide +kernel
theorem dX11_rank_75 : decode cX11_rank 75 = .ok (.lastore, 1) := by decide +kernel
theorem dX11_rank_76 : decode cX11_rank 76 = .ok (.iinc 4 1, 3) := by decide +kernel
theorem dX11_rank_79 : decode cX11_rank 79 = .ok (.goto (-33), 3) := by decide +kernel
theorem dX11_rank_82 : decode cX11_rank 82 = .ok (.iinc 3 1, 3) := by decide +kernel
theorem dX11_rank_85 : decode cX11_rank 85 = .ok (.goto (-48), 3) := by decide +kernel
theorem dX11_rank_88 : decode cX11_rank 88 = .ok (.aload_n 0, 1) := by decide +kernel
theorem dX11_rank_89 : decode cX11_rank 89 = .ok (.bipush 13, 2) := by decide +kernel
theorem dX11_rank_91 : decode cX11_rank 91 = .ok (.invokevirtual 303, 3) := by decide +kernel
theorem dX11_rank_94 : decode cX11_rank 94 = .ok (.ireturn, 1) := by decide +kernel
theorem dX11_rank_26 : decode cX11_rank 26 = .ok (.ireturn, 1) := by decide +kernel
theorem dX11_ratio_0 : decode cX11_ratio 0 = .ok (.aload_n 0, 1) := by decide +kernel
theorem dX11_ratio_1 : decode cX11_ratio 1 = .ok (.iconst 0, 1) := by decide +kernel
theorem dX11_ratio_2 : decode cX11_ratio 2 = .ok (.putfield 75, 3) := by decide +kernel
theorem dX11_ratio_5 : decode cX11_ratio 5 = .ok (.aload_n 0, 1) := by decide +kernel
theorem dX11_ratio_6 : decode cX11_ratio 6 = .ok (.iload_n 1, 1) := by decide +kernel
theorem dX11_ratio_7 : decode cX11_ratio 7 = .ok (.invokevirtual 171, 3) := by decide +kernel
theorem dX11_ratio_10 : decode cX11_ratio 10 = .ok (.ifCond .eq 27, 3) := by decide +kernel
theorem dX11_ratio_37 : decode cX11_ratio 37 = .ok (.iconst (-1), 1) := by decide +kernel
theorem dX11_ratio_13 : decode cX11_ratio 13 = .ok (.iload_n 2, 1) := by decide +kernel
theorem dX11_ratio_14 : decode cX11_ratio 14 = .ok (.i2l, 1) := by decide +kernel
theorem dX11_ratio_15 : decode cX11_ratio 15 = .ok (.lconst 0, 1) := by decide +kernel
theorem dX11_ratio_16 : decode cX11_ratio 16 = .ok (.ldc2_w 261, 3) := by decide +kernel
theorem dX11_ratio_19 : decode cX11_ratio 19 = .ok (.invokestatic 158, 3) := by decide +kernel
theorem dX11_ratio_22 : decode cX11_ratio 22 = .ok (.ifCond .eq 15, 3) := by decide +kernel
theorem dX11_ratio_25 : decode cX11_ratio 25 = .ok (.iload_n 3, 1) := by decide +kernel
theorem dX11_ratio_26 : decode cX11_ratio 26 = .ok (.i2l, 1) := by decide +kernel
theorem dX11_ratio_27 : decode cX11_ratio 27 = .ok (.lconst 1, 1) := by decide +kernel
theorem dX11_ratio_28 : decode cX11_ratio 28 = .ok (.ldc2_w 237, 3) := by decide +kernel
theorem dX11_ratio_31 : decode cX11_ratio 31 = .ok (.invokestatic 158, 3) := by decide +kernel
theorem dX11_ratio_34 : decode cX11_ratio 34 = .ok (.ifCond .ne 5, 3) := by decide +kernel
theorem dX11_ratio_39 : decode cX11_ratio 39 = .ok (.aload_n 0, 1) := by decide +kernel
theorem dX11_ratio_40 : decode cX11_ratio 40 = .ok (.iload_n 1, 1) := by decide +kernel
theorem dX11_ratio_41 : decode cX11_ratio 41 = .ok (.iload_n 2, 1) := by decide +kernel
theorem dX11_ratio_42 : decode cX11_ratio 42 = .ok (.iconst 0, 1) := by decide +kernel
theorem dX11_ratio_43 : decode cX11_ratio 43 = .ok (.iload_n 3, 1) := by decide +kernel
theorem dX11_ratio_44 : decode cX11_ratio 44 = .ok (.aload_n 0, 1) := by decide +kernel
theorem dX11_ratio_45 : decode cX11_ratio 45 = .ok (.getfield 36, 3) := by decide +kernel
theorem dX11_ratio_48 : decode cX11_ratio 48 = .ok (.invokevirtual 272, 3) := by decide +kernel
theorem dX11_ratio_51 : decode cX11_ratio 51 = .ok (.aload_n 0, 1) := by decide +kernel
theorem dX11_ratio_52 : decode cX11_ratio 52 = .ok (.getfield 36, 3) := by decide +kernel
theorem dX11_ratio_55 : decode cX11_ratio 55 = .ok (.iload_n 3, 1) := by decide +kernel
theorem dX11_ratio_56 : decode cX11_ratio 56 = .ok (.iconst 1, 1) := by decide +kernel
theorem dX11_ratio_57 : decode cX11_ratio 57 = .ok (.isub, 1) := by decide +kernel
theorem dX11_ratio_58 : decode cX11_ratio 58 = .ok (.iaload, 1) := by decide +kernel
theorem dX11_ratio_59 : decode cX11_ratio 59 = .ok (.ifCond .ne 7, 3) := by decide +kernel
theorem dX11_ratio_66 : decode cX11_ratio 66 = .ok (.aload_n 0, 1) := by decide +kernel
theorem dX11_ratio_67 : decode cX11_ratio 67 = .ok (.getfield 36, 3) := by decide +kernel
theorem dX11_ratio_70 : decode cX11_ratio 70 = .ok (.iload_n 3, 1) := by decide +kernel
theorem dX11_ratio_71 : decode cX11_ratio 71 = .ok (.iaload, 1) := by decide +kernel
theorem dX11_ratio_72 : decode cX11_ratio 72 = .ok (.i2l, 1) := by decide +kernel
theorem dX11_ratio_73 : decode cX11_ratio 73 = .ok (.aload_n 0, 1) := by decide +kernel
theorem dX11_ratio_74 : decode cX11_ratio 74 = .ok (.getfield 36, 3) := by decide +kernel
theorem dX11_ratio_77 : decode cX11_ratio 77 = .ok (.iload_n 3, 1) := by decide +kernel
theorem dX11_ratio_78 : decode cX11_ratio 78 = .ok (.iconst 1, 1) := by decide +kernel
theorem dX11_ratio_79 : decode cX11_ratio 79 = .ok (.isub, 1) := by decide +kernel
theorem dX11_ratio_80 : decode cX11_ratio 80 = .ok (.iaload, 1) := by decide +kernel
theorem dX11_ratio_81 : decode cX11_ratio 81 = .ok (.i2l, 1) := by decide +kernel
theorem dX11_ratio_82 : decode cX11_ratio 82 = .ok (.invokestatic 297, 3) := by decide +kernel
theorem dX11_ratio_85 : decode cX11_ratio 85 = .ok (.lmul, 1) := by decide +kernel
theorem dX11_ratio_86 : decode cX11_ratio 86 = .ok (.ldc2_w 212, 3) := by decide +kernel
theorem dX11_ratio_89 : decode cX11_ratio 89 = .ok (.lrem, 1) := by decide +kernel
theorem dX11_ratio_90 : decode cX11_ratio 90 = .ok (.l2i, 1) := by decide +kernel
theorem dX11_ratio_62 : decode cX11_ratio 62 = .ok (.iconst (-1), 1) := by decide +kernel
theorem dX11_ratio_63 : decode cX11_ratio 63 = .ok (.goto 28, 3) := by decide +kernel
theorem dX11_ratio_38 : decode cX11_ratio 38 = .ok (.ireturn, 1) := by decide +kernel
theorem dX11_ratio_91 : decode cX11_ratio 91 = .ok (.ireturn, 1) := by decide +kernel
theorem dX11_walksTo_0 : decode cX11_walksTo 0 = .ok (.aload_n 0, 1) := by decide +kernel
theorem dX11_walksTo_1 : decode cX11_walksTo 1 = .ok (.iload_n 1, 1) := by decide +kernel
theorem dX11_walksTo_2 : decode cX11_walksTo 2 = .ok (.iconst 0, 1) := by decide +kernel
theorem dX11_walksTo_3 : decode cX11_walksTo 3 = .ok (.iconst 3, 1) := by decide +kernel
theorem dX11_walksTo_4 : decode cX11_walksTo 4 = .ok (.iload_n 2, 1) := by decide +kernel
theorem dX11_walksTo_5 : decode cX11_walksTo 5 = .ok (.invokevirtual 246, 3) := by decide +kernel
theorem dX11_walksTo_8 : decode cX11_walksTo 8 = .ok (.aload_n 0, 1) := by decide +kernel
theorem dX11_walksTo_9 : decode cX11_walksTo 9 = .ok (.iload_n 3, 1) := by decide +kernel
theorem dX11_walksTo_10 : decode cX11_walksTo 10 = .ok (.iload 4, 2) := by decide +kernel
theorem dX11_walksTo_12 : decode cX11_walksTo 12 = .ok (.invokevirtual 250, 3) := by decide +kernel
theorem dX11_walksTo_15 : decode cX11_walksTo 15 = .ok (.lreturn, 1) := by decide +kernel
theorem dX11_peak_0 : decode cX11_peak 0 = .ok (.aload_n 0, 1) := by decide +kernel
theorem dX11_peak_1 : decode cX11_peak 1 = .ok (.iconst 0, 1) := by decide +kernel
theorem dX11_peak_2 : decode cX11_peak 2 = .ok (.putfield 75, 3) := by decide +kernel
theorem dX11_peak_5 : decode cX11_peak 5 = .ok (.aload_n 0, 1) := by decide +kernel
theorem dX11_peak_6 : decode cX11_peak 6 = .ok (.iload_n 1, 1) := by decide +kernel
theorem dX11_peak_7 : decode cX11_peak 7 = .ok (.invokevirtual 171, 3) := by decide +kernel
theorem dX11_peak_10 : decode cX11_peak 10 = .ok (.ifCond .eq 22, 3) := by decide +kernel
theorem dX11_peak_32 : decode cX11_peak 32 = .ok (.ldc_w 286, 3) := by decide +kernel
theorem dX11_peak_13 : decode cX11_peak 13 = .ok (.iload_n 2, 1) := by decide +kernel
theorem dX11_peak_14 : decode cX11_peak 14 = .ok (.invokestatic 314, 3) := by decide +kernel
theorem w_1820 : Cond.methodLink "QuarterWalksModel" 314 yX11_isFew ∈ wAll := wI8 45 (by decide +kernel) (by decide +kernel)
theorem mk_X11_isFew : mk yX11_isFew 1 := ⟨by decide +kernel, w_110⟩
theorem w_1821 : Cond.static yX11_isFew ∈ wAll := wI8 46 (by decide +kernel) (by decide +kernel)
theorem w_1822 : Cond.code yX11_isFew cX11_isFew 1 (some .boolean) ∈ wAll := wI8 47 (by decide +kernel) (by decide +kernel)
theorem dX11_peak_17 : decode cX11_peak 17 = .ok (.ifCond .eq 15, 3) := by decide +kernel
theorem dX11_peak_20 : decode cX11_peak 20 = .ok (.iload_n 3, 1) := by decide +kernel
theorem dX11_peak_21 : decode cX11_peak 21 = .ok (.i2l, 1) := by decide +kernel
theorem dX11_peak_22 : decode cX11_peak 22 = .ok (.lconst 0, 1) := by decide +kernel
theorem dX11_peak_23 : decode cX11_peak 23 = .ok (.ldc2_w 179, 3) := by decide +kernel
theorem dX11_peak_26 : decode cX11_peak 26 = .ok (.invokestatic 158, 3) := by decide +kernel
theorem dX11_peak_29 : decode cX11_peak 29 = .ok (.ifCond .ne 7, 3) := by decide +kernel
theorem dX11_peak_36 : decode cX11_peak 36 = .ok (.aload_n 0, 1) := by decide +kernel
theorem dX11_peak_37 : decode cX11_peak 37 = .ok (.iload_n 1, 1) := by decide +kernel
theorem dX11_peak_38 : decode cX11_peak 38 = .ok (.iconst 0, 1) := by decide +kernel
theorem dX11_peak_39 : decode cX11_peak 39 = .ok (.iconst 3, 1) := by decide +kernel
theorem dX11_peak_40 : decode cX11_peak 40 = .ok (.iload_n 2, 1) := by decide +kernel
theorem dX11_peak_41 : decode cX11_peak 41 = .ok (.invokevirtual 246, 3) := by decide +kernel
theorem dX11_peak_44 : decode cX11_peak 44 = .ok (.lconst 0, 1) := by decide +kernel
theorem dX11_peak_45 : decode cX11_peak 45 = .ok (.lstore 4, 2) := by decide +kernel
theorem dX11_peak_47 : decode cX11_peak 47 = .ok (.iconst 0, 1) := by decide +kernel
theorem dX11_peak_48 : decode cX11_peak 48 = .ok (.istore 6, 2) := by decide +kernel
theorem dX11_peak_50 : decode cX11_peak 50 = .ok (.iconst 0, 1) := by decide +kernel
theorem dX11_peak_51 : decode cX11_peak 51 = .ok (.istore 7, 2) := by decide +kernel
theorem dX11_peak_53 : decode cX11_peak 53 = .ok (.iconst 0, 1) := by decide +kernel
theorem dX11_peak_54 : decode cX11_peak 54 = .ok (.istore 8, 2) := by decide +kernel
theorem dX11_peak_56 : decode cX11_peak 56 = .ok (.iload 8, 2) := by decide +kernel
theorem dX11_peak_58 : decode cX11_peak 58 = .ok (.bipush 75, 2) := by decide +kernel
theorem dX11_peak_60 : decode cX11_peak 60 = .ok (.if_icmp .ge 68, 3) := by decide +kernel
theorem dX11_peak_63 : decode cX11_peak 63 = .ok (.iconst 0, 1) := by decide +kernel
theorem dX11_peak_64 : decode cX11_peak 64 = .ok (.istore 9, 2) := by decide +kernel
theorem dX11_peak_66 : decode cX11_peak 66 = .ok (.iload 9, 2) := by decide +kernel
theorem dX11_peak_68 : decode cX11_peak 68 = .ok (.bipush 75, 2) := by decide +kernel
theorem dX11_peak_70 : decode cX11_peak 70 = .ok (.if_icmp .ge 52, 3) := by decide +kernel
theorem dX11_peak_73 : decode cX11_peak 73 = .ok (.aload_n 0, 1) := by decide +kernel
theorem dX11_peak_74 : decode cX11_peak 74 = .ok (.getfield 29, 3) := by decide +kernel
theorem dX11_peak_77 : decode cX11_peak 77 = .ok (.iload 8, 2) := by decide +kernel
theorem dX11_peak_79 : decode cX11_peak 79 = .ok (.iload 9, 2) := by decide +kernel
theorem dX11_peak_81 : decode cX11_peak 81 = .ok (.invokestatic 206, 3) := by decide +kernel
theorem dX11_peak_84 : decode cX11_peak 84 = .ok (.laload, 1) := by decide +kernel
theorem dX11_peak_85 : decode cX11_peak 85 = .ok (.lload 4, 2) := by decide +kernel
theorem dX11_peak_87 : decode cX11_peak 87 = .ok (.lcmp, 1) := by decide +kernel
theorem dX11_peak_88 : decode cX11_peak 88 = .ok (.ifCond .gt 6, 3) := by decide +kernel
theorem dX11_peak_94 : decode cX11_peak 94 = .ok (.aload_n 0, 1) := by decide +kernel
theorem dX11_peak_95 : decode cX11_peak 95 = .ok (.getfield 29, 3) := by decide +kernel
theorem dX11_peak_98 : decode cX11_peak 98 = .ok (.iload 8, 2) := by decide +kernel
theorem dX11_peak_100 : decode cX11_peak 100 = .ok (.iload 9, 2) := by decide +kernel
theorem dX11_peak_102 : decode cX11_peak 102 = .ok (.invokestatic 206, 3) := by decide +kernel
theorem dX11_peak_105 : decode cX11_peak 105 = .ok (.laload, 1) := by decide +kernel
theorem dX11_peak_106 : decode cX11_peak 106 = .ok (.lstore 4, 2) := by decide +kernel
theorem dX11_peak_108 : decode cX11_peak 108 = .ok (.iload 8, 2) := by decide +kernel
theorem dX11_peak_110 : decode cX11_peak 110 = .ok (.istore 6, 2) := by decide +kernel
theorem dX11_peak_112 : decode cX11_peak 112 = .ok (.iload 9, 2) := by decide +kernel
theorem dX11_peak_114 : decode cX11_peak 114 = .ok (.istore 7, 2) := by decide +kernel
theorem dX11_peak_116 : decode cX11_peak 116 = .ok (.iinc 9 1, 3) := by decide +kernel
theorem dX11_peak_119 : decode cX11_peak 119 = .ok (.goto (-53), 3) := by decide +kernel
theorem dX11_peak_91 : decode cX11_peak 91 = .ok (.goto 25, 3) := by decide +kernel
theorem dX11_peak_122 : decode cX11_peak 122 = .ok (.iinc 8 1, 3) := by decide +kernel
theorem dX11_peak_125 : decode cX11_peak 125 = .ok (.goto (-69), 3) := by decide +kernel
theorem dX11_peak_128 : decode cX11_peak 128 = .ok (.lload 4, 2) := by decide +kernel
theorem dX11_peak_130 : decode cX11_peak 130 = .ok (.lconst 0, 1) := by decide +kernel
theorem dX11_peak_131 : decode cX11_peak 131 = .ok (.lcmp, 1) := by decide +kernel
theorem dX11_peak_132 : decode cX11_peak 132 = .ok (.ifCond .ne 9, 3) := by decide +kernel
theorem dX11_peak_141 : decode cX11_peak 141 = .ok (.iload_n 3, 1) := by decide +kernel
theorem dX11_peak_142 : decode cX11_peak 142 = .ok (.ifCond .ne 8, 3) := by decide +kernel
theorem dX11_peak_150 : decode cX11_peak 150 = .ok (.iload_n 3, 1) := by decide +kernel
theorem dX11_peak_151 : decode cX11_peak 151 = .ok (.iconst 1, 1) := by decide +kernel
theorem dX11_peak_152 : decode cX11_peak 152 = .ok (.if_icmp .ne 8, 3) := by decide +kernel
theorem dX11_peak_160 : decode cX11_peak 160 = .ok (.lload 4, 2) := by decide +kernel
theorem dX11_peak_162 : decode cX11_peak 162 = .ok (.l2i, 1) := by decide +kernel
theorem dX11_peak_155 : decode cX11_peak 155 = .ok (.iload 7, 2) := by decide +kernel
theorem dX11_peak_157 : decode cX11_peak 157 = .ok (.goto 6, 3) := by decide +kernel
theorem dX11_peak_145 : decode cX11_peak 145 = .ok (.iload 6, 2) := by decide +kernel
theorem dX11_peak_147 : decode cX11_peak 147 = .ok (.goto 16, 3) := by decide +kernel
theorem dX11_peak_135 : decode cX11_peak 135 = .ok (.ldc_w 286, 3) := by decide +kernel
theorem dX11_peak_138 : decode cX11_peak 138 = .ok (.goto 25, 3) := by decide +kernel
theorem dX11_peak_163 : decode cX11_peak 163 = .ok (.ireturn, 1) := by decide +kernel
theorem dX11_peak_35 : decode cX11_peak 35 = .ok (.ireturn, 1) := by decide +kernel
theorem dX11_points_0 : decode cX11_points 0 = .ok (.aload_n 0, 1) := by decide +kernel
theorem dX11_points_1 : decode cX11_points 1 = .ok (.iconst 0, 1) := by decide +kernel
theorem dX11_points_2 : decode cX11_points 2 = .ok (.putfield 75, 3) := by decide +kernel
theorem dX11_points_5 : decode cX11_points 5 = .ok (.aload_n 0, 1) := by decide +kernel
theorem dX11_points_6 : decode cX11_points 6 = .ok (.iload_n 1, 1) := by decide +kernel
theorem dX11_points_7 : decode cX11_points 7 = .ok (.invokevirtual 171, 3) := by decide +kernel
theorem dX11_points_10 : decode cX11_points 10 = .ok (.ifCond .eq 10, 3) := by decide +kernel
theorem dX11_points_20 : decode cX11_points 20 = .ok (.iconst (-1), 1) := by decide +kernel
theorem dX11_points_13 : decode cX11_points 13 = .ok (.iload_n 2, 1) := by decide +kernel
theorem dX11_points_14 : decode cX11_points 14 = .ok (.invokestatic 239, 3) := by decide +kernel
theorem dX11_points_17 : decode cX11_points 17 = .ok (.ifCond .ne 5, 3) := by decide +kernel
theorem dX11_points_22 : decode cX11_points 22 = .ok (.aload_n 0, 1) := by decide +kernel
theorem dX11_points_23 : decode cX11_points 23 = .ok (.iload_n 1, 1) := by decide +kernel
theorem dX11_points_24 : decode cX11_points 24 = .ok (.iconst 0, 1) := by decide +kernel
theorem dX11_points_25 : decode cX11_points 25 = .ok (.iconst 4, 1) := by decide +kernel
theorem dX11_points_26 : decode cX11_points 26 = .ok (.iload_n 2, 1) := by decide +kernel
theorem dX11_points_27 : decode cX11_points 27 = .ok (.invokevirtual 246, 3) := by decide +kernel
theorem dX11_points_30 : decode cX11_points 30 = .ok (.iconst 0, 1) := by decide +kernel
theorem dX11_points_31 : decode cX11_points 31 = .ok (.istore_n 3, 1) := by decide +kernel
theorem dX11_points_32 : decode cX11_points 32 = .ok (.iconst 0, 1) := by decide +kernel
theorem dX11_points_33 : decode cX11_points 33 = .ok (.istore 4, 2) := by decide +kernel
theorem dX11_points_35 : decode cX11_points 35 = .ok (.iload 4, 2) := by decide +kernel
theorem dX11_points_37 : decode cX11_points 37 = .ok (.sipush 19600, 3) := by decide +kernel
theorem dX11_points_40 : decode cX11_points 40 = .ok (.if_icmp .ge 20, 3) := by decide +kernel
theorem dX11_points_43 : decode cX11_points 43 = .ok (.iload_n 3, 1) := by decide +kernel
theorem dX11_points_44 : decode cX11_points 44 = .ok (.aload_n 0, 1) := by decide +kernel
theorem dX11_points_45 : decode cX11_points 45 = .ok (.getfield 29, 3) := by decide +kernel
theorem dX11_points_48 : decode cX11_points 48 = .ok (.iload 4, 2) := by decide +kernel
theorem dX11_points_50 : decode cX11_points 50 = .ok (.laload, 1) := by decide +kernel
theorem dX11_points_51 : decode cX11_points 51 = .ok (.l2i, 1) := by decide +kernel
theorem dX11_points_52 : decode cX11_points 52 = .ok (.iadd, 1) := by decide +kernel
theorem dX11_points_53 : decode cX11_points 53 = .ok (.istore_n 3, 1) := by decide +kernel
theorem dX11_points_54 : decode cX11_points 54 = .ok (.iinc 4 1, 3) := by decide +kernel
theorem dX11_points_57 : decode cX11_points 57 = .ok (.goto (-22), 3) := by decide +kernel
theorem dX11_points_60 : decode cX11_points 60 = .ok (.iload_n 3, 1) := by decide +kernel
theorem dX11_points_61 : decode cX11_points 61 = .ok (.ireturn, 1) := by decide +kernel
theorem dX11_points_21 : decode cX11_points 21 = .ok (.ireturn, 1) := by decide +kernel
theorem dX11_fewest_0 : decode cX11_fewest 0 = .ok (.aload_n 0, 1) := by decide +kernel
theorem dX11_fewest_1 : decode cX11_fewest 1 = .ok (.iconst 0, 1) := by decide +kernel
theorem dX11_fewest_2 : decode cX11_fewest 2 = .ok (.putfield 75, 3) := by decide +kernel
theorem dX11_fewest_5 : decode cX11_fewest 5 = .ok (.aload_n 0, 1) := by decide +kernel
theorem dX11_fewest_6 : decode cX11_fewest 6 = .ok (.iload_n 1, 1) := by decide +kernel
theorem dX11_fewest_7 : decode cX11_fewest 7 = .ok (.invokevirtual 171, 3) := by decide +kernel
theorem dX11_fewest_10 : decode cX11_fewest 10 = .ok (.ifCond .eq 11, 3) := by decide +kernel
theorem dX11_fewest_21 : decode cX11_fewest 21 = .ok (.iconst (-1), 1) := by decide +kernel
theorem dX11_fewest_13 : decode cX11_fewest 13 = .ok (.iload_n 2, 1) := by decide +kernel
theorem dX11_fewest_14 : decode cX11_fewest 14 = .ok (.iload_n 3, 1) := by decide +kernel
theorem dX11_fewest_15 : decode cX11_fewest 15 = .ok (.invokestatic 242, 3) := by decide +kernel
theorem dX11_fewest_18 : decode cX11_fewest 18 = .ok (.ifCond .eq 5, 3) := by decide +kernel
theorem dX11_fewest_23 : decode cX11_fewest 23 = .ok (.aload_n 0, 1) := by decide +kernel
theorem dX11_fewest_24 : decode cX11_fewest 24 = .ok (.iload_n 1, 1) := by decide +kernel
theorem dX11_fewest_25 : decode cX11_fewest 25 = .ok (.invokevirtual 222, 3) := by decide +kernel
theorem dX11_fewest_28 : decode cX11_fewest 28 = .ok (.aload_n 0, 1) := by decide +kernel
theorem dX11_fewest_29 : decode cX11_fewest 29 = .ok (.iload_n 2, 1) := by decide +kernel
theorem dX11_fewest_30 : decode cX11_fewest 30 = .ok (.iload_n 3, 1) := by decide +kernel
theorem dX11_fewest_31 : decode cX11_fewest 31 = .ok (.invokevirtual 250, 3) := by decide +kernel
theorem dX11_fewest_34 : decode cX11_fewest 34 = .ok (.lconst 0, 1) := by decide +kernel
theorem dX11_fewest_35 : decode cX11_fewest 35 = .ok (.lcmp, 1) := by decide +kernel
theorem dX11_fewest_36 : decode cX11_fewest 36 = .ok (.ifCond .ne 22, 3) := by decide +kernel
theorem dX11_fewest_58 : decode cX11_fewest 58 = .ok (.aload_n 0, 1) := by decide +kernel
theorem dX11_fewest_59 : decode cX11_fewest 59 = .ok (.iload_n 2, 1) := by decide +kernel
theorem dX11_fewest_60 : decode cX11_fewest 60 = .ok (.iload_n 3, 1) := by decide +kernel
theorem dX11_fewest_61 : decode cX11_fewest 61 = .ok (.invokevirtual 250, 3) := by decide +kernel
theorem dX11_fewest_64 : decode cX11_fewest 64 = .ok (.lconst 0, 1) := by decide +kernel
theorem dX11_fewest_65 : decode cX11_fewest 65 = .ok (.lcmp, 1) := by decide +kernel
theorem dX11_fewest_66 : decode cX11_fewest 66 = .ok (.ifCond .ne 7, 3) := by decide +kernel
theorem dX11_fewest_73 : decode cX11_fewest 73 = .ok (.aload_n 0, 1) := by decide +kernel
theorem dX11_fewest_74 : decode cX11_fewest 74 = .ok (.getfield 209, 3) := by decide +kernel
theorem dX11_fewest_69 : decode cX11_fewest 69 = .ok (.iconst (-1), 1) := by decide +kernel
theorem dX11_fewest_70 : decode cX11_fewest 70 = .ok (.goto 7, 3) := by decide +kernel
theorem dX11_fewest_39 : decode cX11_fewest 39 = .ok (.aload_n 0, 1) := by decide +kernel
theorem dX11_fewest_40 : decode cX11_fewest 40 = .ok (.getfield 209, 3) := by decide +kernel
theorem dX11_fewest_43 : decode cX11_fewest 43 = .ok (.bipush 60, 2) := by decide +kernel
theorem dX11_fewest_45 : decode cX11_fewest 45 = .ok (.if_icmp .ge 13, 3) := by decide +kernel
theorem dX11_fewest_48 : decode cX11_fewest 48 = .ok (.aload_n 0, 1) := by decide +kernel
theorem dX11_fewest_49 : decode cX11_fewest 49 = .ok (.iload_n 1, 1) := by decide +kernel
theorem dX11_fewest_50 : decode cX11_fewest 50 = .ok (.iconst 0, 1) := by decide +kernel
theorem dX11_fewest_51 : decode cX11_fewest 51 = .ok (.iconst 4, 1) := by decide +kernel
theorem dX11_fewest_52 : decode cX11_fewest 52 = .ok (.invokevirtual 225, 3) := by decide +kernel
theorem dX11_fewest_55 : decode cX11_fewest 55 = .ok (.goto (-27), 3) := by decide +kernel
theorem dX11_fewest_77 : decode cX11_fewest 77 = .ok (.ireturn, 1) := by decide +kernel
theorem dX11_fewest_22 : decode cX11_fewest 22 = .ok (.ireturn, 1) := by decide +kernel
theorem dX11_period_0 : decode cX11_period 0 = .ok (.aload_n 0, 1) := by decide +kernel
theorem dX11_period_1 : decode cX11_period 1 = .ok (.iconst 0, 1) := by decide +kernel
theorem dX11_period_2 : decode cX11_period 2 = .ok (.putfield 75, 3) := by decide +kernel
theorem dX11_period_5 : decode cX11_period 5 = .ok (.aload_n 0, 1) := by decide +kernel
theorem dX11_period_6 : decode cX11_period 6 = .ok (.iload_n 1, 1) := by decide +kernel
theorem dX11_period_7 : decode cX11_period 7 = .ok (.invokevirtual 171, 3) := by decide +kernel
theorem dX11_period_10 : decode cX11_period 10 = .ok (.ifCond .ne 5, 3) := by decide +kernel
theorem dX11_period_15 : decode cX11_period 15 = .ok (.aload_n 0, 1) := by decide +kernel
theorem dX11_period_16 : decode cX11_period 16 = .ok (.iload_n 1, 1) := by decide +kernel
theorem dX11_period_17 : decode cX11_period 17 = .ok (.invokevirtual 222, 3) := by decide +kernel
theorem dX11_period_20 : decode cX11_period 20 = .ok (.iconst 0, 1) := by decide +kernel
theorem dX11_period_21 : decode cX11_period 21 = .ok (.istore_n 2, 1) := by decide +kernel
theorem dX11_period_22 : decode cX11_period 22 = .ok (.iconst 1, 1) := by decide +kernel
theorem dX11_period_23 : decode cX11_period 23 = .ok (.istore_n 3, 1) := by decide +kernel
theorem dX11_period_13 : decode cX11_period 13 = .ok (.iconst (-1), 1) := by decide +kernel
theorem dX11_period_24 : decode cX11_period 24 = .ok (.iload_n 3, 1) := by decide +kernel
theorem dX11_period_25 : decode cX11_period 25 = .ok (.bipush 60, 2) := by decide +kernel
theorem dX11_period_27 : decode cX11_period 27 = .ok (.if_icmp .gt 45, 3) := by decide +kernel
theorem dX11_period_30 : decode cX11_period 30 = .ok (.aload_n 0, 1) := by decide +kernel
theorem dX11_period_31 : decode cX11_period 31 = .ok (.iload_n 1, 1) := by decide +kernel
theorem dX11_period_32 : decode cX11_period 32 = .ok (.iconst 0, 1) := by decide +kernel
theorem dX11_period_33 : decode cX11_period 33 = .ok (.iconst 4, 1) := by decide +kernel
theorem dX11_period_34 : decode cX11_period 34 = .ok (.invokevirtual 225, 3) := by decide +kernel
theorem dX11_period_37 : decode cX11_period 37 = .ok (.aload_n 0, 1) := by decide +kernel
theorem dX11_period_38 : decode cX11_period 38 = .ok (.aload_n 0, 1) := by decide +kernel
theorem dX11_period_39 : decode cX11_period 39 = .ok (.iload_n 1, 1) := by decide +kernel
theorem dX11_period_40 : decode cX11_period 40 = .ok (.bipush 8, 2) := by decide +kernel
theorem dX11_period_42 : decode cX11_period 42 = .ok (.invokevirtual 175, 3) := by decide +kernel
theorem dX11_period_45 : decode cX11_period 45 = .ok (.aload_n 0, 1) := by decide +kernel
theorem dX11_period_46 : decode cX11_period 46 = .ok (.iload_n 1, 1) := by decide +kernel
theorem dX11_period_47 : decode cX11_period 47 = .ok (.bipush 9, 2) := by decide +kernel
theorem dX11_period_49 : decode cX11_period 49 = .ok (.invokevirtual 175, 3) := by decide +kernel
theorem dX11_period_52 : decode cX11_period 52 = .ok (.invokevirtual 250, 3) := by decide +kernel
theorem dX11_period_55 : decode cX11_period 55 = .ok (.lconst 0, 1) := by decide +kernel
theorem dX11_period_56 : decode cX11_period 56 = .ok (.lcmp, 1) := by decide +kernel
theorem dX11_period_57 : decode cX11_period 57 = .ok (.ifCond .le 9, 3) := by decide +kernel
theorem dX11_period_66 : decode cX11_period 66 = .ok (.iinc 3 1, 3) := by decide +kernel
theorem dX11_period_69 : decode cX11_period 69 = .ok (.goto (-45), 3) := by decide +kernel
theorem dX11_period_60 : decode cX11_period 60 = .ok (.iload_n 2, 1) := by decide +kernel
theorem dX11_period_61 : decode cX11_period 61 = .ok (.iload_n 3, 1) := by decide +kernel
theorem dX11_period_62 : decode cX11_period 62 = .ok (.invokestatic 329, 3) := by decide +kernel
theorem w_1858 : Cond.methodLink "QuarterWalksModel" 329 yX11_common ∈ wAll := wI8 83 (by decide +kernel) (by decide +kernel)
theorem mk_X11_common : mk yX11_common 2 := ⟨by decide +kernel, w_110⟩
theorem w_1859 : Cond.static yX11_common ∈ wAll := wI8 84 (by decide +kernel) (by decide +kernel)
theorem w_1860 : Cond.code yX11_common cX11_common 5 (some .int) ∈ wAll := wI8 85 (by decide +kernel) (by decide +kernel)
theorem dX11_period_65 : decode cX11_period 65 = .ok (.istore_n 2, 1) := by decide +kernel
theorem dX11_period_72 : decode cX11_period 72 = .ok (.iload_n 2, 1) := by decide +kernel
theorem dX11_period_73 : decode cX11_period 73 = .ok (.ireturn, 1) := by decide +kernel
theorem dX11_period_14 : decode cX11_period 14 = .ok (.ireturn, 1) := by decide +kernel
theorem dX11_meet_0 : decode cX11_meet 0 = .ok (.aload_n 0, 1) := by decide +kernel
theorem dX11_meet_1 : decode cX11_meet 1 = .ok (.iconst 0, 1) := by decide +kernel
theorem dX11_meet_2 : decode cX11_meet 2 = .ok (.putfield 75, 3) := by decide +kernel
theorem dX11_meet_5 : decode cX11_meet 5 = .ok (.aload_n 0, 1) := by decide +kernel
theorem dX11_meet_6 : decode cX11_meet 6 = .ok (.iload_n 1, 1) := by decide +kernel
theorem dX11_meet_7 : decode cX11_meet 7 = .ok (.invokevirtual 171, 3) := by decide +kernel
theorem dX11_meet_10 : decode cX11_meet 10 = .ok (.ifCond .eq 18, 3) := by decide +kernel
theorem dX11_meet_28 : decode cX11_meet 28 = .ok (.iconst (-1), 1) := by decide +kernel
theorem dX11_meet_13 : decode cX11_meet 13 = .ok (.aload_n 0, 1) := by decide +kernel
theorem dX11_meet_14 : decode cX11_meet 14 = .ok (.iload_n 2, 1) := by decide +kernel
theorem dX11_meet_15 : decode cX11_meet 15 = .ok (.invokevirtual 171, 3) := by decide +kernel
theorem dX11_meet_18 : decode cX11_meet 18 = .ok (.ifCond .eq 10, 3) := by decide +kernel
theorem dX11_meet_21 : decode cX11_meet 21 = .ok (.iload_n 3, 1) := by decide +kernel
theorem dX11_meet_22 : decode cX11_meet 22 = .ok (.invokestatic 239, 3) := by decide +kernel
theorem dX11_meet_25 : decode cX11_meet 25 = .ok (.ifCond .ne 5, 3) := by decide +kernel
theorem dX11_meet_30 : decode cX11_meet 30 = .ok (.aload_n 0, 1) := by decide +kernel
theorem dX11_meet_31 : decode cX11_meet 31 = .ok (.iload_n 1, 1) := by decide +kernel
theorem dX11_meet_32 : decode cX11_meet 32 = .ok (.iconst 0, 1) := by decide +kernel
theorem dX11_meet_33 : decode cX11_meet 33 = .ok (.iconst 1, 1) := by decide +kernel
theorem dX11_meet_34 : decode cX11_meet 34 = .ok (.iload_n 3, 1) := by decide +kernel
theorem dX11_meet_35 : decode cX11_meet 35 = .ok (.invokevirtual 246, 3) := by decide +kernel
theorem dX11_meet_38 : decode cX11_meet 38 = .ok (.iconst 0, 1) := by decide +kernel
theorem dX11_meet_39 : decode cX11_meet 39 = .ok (.istore 4, 2) := by decide +kernel
theorem dX11_meet_41 : decode cX11_meet 41 = .ok (.iload 4, 2) := by decide +kernel
theorem dX11_meet_43 : decode cX11_meet 43 = .ok (.sipush 19600, 3) := by decide +kernel
theorem dX11_meet_46 : decode cX11_meet 46 = .ok (.if_icmp .ge 23, 3) := by decide +kernel
theorem dX11_meet_49 : decode cX11_meet 49 = .ok (.aload_n 0, 1) := by decide +kernel
theorem dX11_meet_50 : decode cX11_meet 50 = .ok (.getfield 45, 3) := by decide +kernel
theorem w_1452 : Cond.fieldLink "QuarterWalksModel" 45 "QuarterWalksModel" "held" "[J" ∈ wAll := wI6 157 (by decide +kernel) (by decide +kernel)
theorem fl_X11_45 : fl RX11 45 12 19 := ⟨RX11, TX11, 32, rfl, inA_X11, by decide, w_1452⟩
theorem dX11_meet_53 : decode cX11_meet 53 = .ok (.iload 4, 2) := by decide +kernel
theorem dX11_meet_55 : decode cX11_meet 55 = .ok (.aload_n 0, 1) := by decide +kernel
theorem dX11_meet_56 : decode cX11_meet 56 = .ok (.getfield 29, 3) := by decide +kernel
theorem dX11_meet_59 : decode cX11_meet 59 = .ok (.iload 4, 2) := by decide +kernel
theorem dX11_meet_61 : decode cX11_meet 61 = .ok (.laload, 1) := by decide +kernel
theorem dX11_meet_62 : decode cX11_meet 62 = .ok (.lastore, 1) := by decide +kernel
theorem dX11_meet_63 : decode cX11_meet 63 = .ok (.iinc 4 1, 3) := by decide +kernel
theorem dX11_meet_66 : decode cX11_meet 66 = .ok (.goto (-25), 3) := by decide +kernel
theorem dX11_meet_69 : decode cX11_meet 69 = .ok (.aload_n 0, 1) := by decide +kernel
theorem dX11_meet_70 : decode cX11_meet 70 = .ok (.iload_n 2, 1) := by decide +kernel
theorem dX11_meet_71 : decode cX11_meet 71 = .ok (.iconst 0, 1) := by decide +kernel
theorem dX11_meet_72 : decode cX11_meet 72 = .ok (.iconst 1, 1) := by decide +kernel
theorem dX11_meet_73 : decode cX11_meet 73 = .ok (.iload_n 3, 1) := by decide +kernel
theorem dX11_meet_74 : decode cX11_meet 74 = .ok (.invokevirtual 246, 3) := by decide +kernel
theorem dX11_meet_77 : decode cX11_meet 77 = .ok (.lconst 0, 1) := by decide +kernel
theorem dX11_meet_78 : decode cX11_meet 78 = .ok (.lstore 4, 2) := by decide +kernel
theorem dX11_meet_80 : decode cX11_meet 80 = .ok (.iconst 0, 1) := by decide +kernel
theorem dX11_meet_81 : decode cX11_meet 81 = .ok (.istore 6, 2) := by decide +kernel
theorem dX11_meet_83 : decode cX11_meet 83 = .ok (.iload 6, 2) := by decide +kernel
theorem dX11_meet_85 : decode cX11_meet 85 = .ok (.sipush 19600, 3) := by decide +kernel
theorem dX11_meet_88 : decode cX11_meet 88 = .ok (.if_icmp .ge 33, 3) := by decide +kernel
theorem dX11_meet_91 : decode cX11_meet 91 = .ok (.lload 4, 2) := by decide +kernel
theorem dX11_meet_93 : decode cX11_meet 93 = .ok (.aload_n 0, 1) := by decide +kernel
theorem dX11_meet_94 : decode cX11_meet 94 = .ok (.getfield 45, 3) := by decide +kernel
theorem dX11_meet_97 : decode cX11_meet 97 = .ok (.iload 6, 2) := by decide +kernel
theorem dX11_meet_99 : decode cX11_meet 99 = .ok (.laload, 1) := by decide +kernel
theorem dX11_meet_100 : decode cX11_meet 100 = .ok (.aload_n 0, 1) := by decide +kernel
theorem dX11_meet_101 : decode cX11_meet 101 = .ok (.getfield 29, 3) := by decide +kernel
theorem dX11_meet_104 : decode cX11_meet 104 = .ok (.iload 6, 2) := by decide +kernel
theorem dX11_meet_106 : decode cX11_meet 106 = .ok (.laload, 1) := by decide +kernel
theorem dX11_meet_107 : decode cX11_meet 107 = .ok (.lmul, 1) := by decide +kernel
theorem dX11_meet_108 : decode cX11_meet 108 = .ok (.ladd, 1) := by decide +kernel
theorem dX11_meet_109 : decode cX11_meet 109 = .ok (.ldc2_w 212, 3) := by decide +kernel
theorem dX11_meet_112 : decode cX11_meet 112 = .ok (.lrem, 1) := by decide +kernel
theorem dX11_meet_113 : decode cX11_meet 113 = .ok (.lstore 4, 2) := by decide +kernel
theorem dX11_meet_115 : decode cX11_meet 115 = .ok (.iinc 6 1, 3) := by decide +kernel
theorem dX11_meet_118 : decode cX11_meet 118 = .ok (.goto (-35), 3) := by decide +kernel
theorem dX11_meet_121 : decode cX11_meet 121 = .ok (.lload 4, 2) := by decide +kernel
theorem dX11_meet_123 : decode cX11_meet 123 = .ok (.l2i, 1) := by decide +kernel
theorem dX11_meet_124 : decode cX11_meet 124 = .ok (.ireturn, 1) := by decide +kernel
theorem dX11_meet_29 : decode cX11_meet 29 = .ok (.ireturn, 1) := by decide +kernel
theorem dX11_kernel_0 : decode cX11_kernel 0 = .ok (.aload_n 0, 1) := by decide +kernel
theorem dX11_kernel_1 : decode cX11_kernel 1 = .ok (.iconst 0, 1) := by decide +kernel
theorem dX11_kernel_2 : decode cX11_kernel 2 = .ok (.putfield 75, 3) := by decide +kernel
theorem dX11_kernel_5 : decode cX11_kernel 5 = .ok (.aload_n 0, 1) := by decide +kernel
theorem dX11_kernel_6 : decode cX11_kernel 6 = .ok (.iload_n 1, 1) := by decide +kernel
theorem dX11_kernel_7 : decode cX11_kernel 7 = .ok (.invokevirtual 171, 3) := by decide +kernel
theorem dX11_kernel_10 : decode cX11_kernel 10 = .ok (.ifCond .eq 11, 3) := by decide +kernel
theorem dX11_kernel_21 : decode cX11_kernel 21 = .ok (.iconst (-1), 1) := by decide +kernel
theorem dX11_kernel_13 : decode cX11_kernel 13 = .ok (.iload_n 2, 1) := by decide +kernel
theorem dX11_kernel_14 : decode cX11_kernel 14 = .ok (.iload_n 3, 1) := by decide +kernel
theorem dX11_kernel_15 : decode cX11_kernel 15 = .ok (.invokestatic 337, 3) := by decide +kernel
theorem w_1869 : Cond.methodLink "QuarterWalksModel" 337 yX11_isField ∈ wAll := wI8 94 (by decide +kernel) (by decide +kernel)
theorem mk_X11_isField : mk yX11_isField 2 := ⟨by decide +kernel, w_110⟩
theorem w_1870 : Cond.static yX11_isField ∈ wAll := wI8 95 (by decide +kernel) (by decide +kernel)
theorem w_1871 : Cond.code yX11_isField cX11_isField 2 (some .boolean) ∈ wAll := wI8 96 (by decide +kernel) (by decide +kernel)
theorem dX11_kernel_18 : decode cX11_kernel 18 = .ok (.ifCond .ne 5, 3) := by decide +kernel
theorem dX11_kernel_23 : decode cX11_kernel 23 = .ok (.lconst 0, 1) := by decide +kernel
theorem dX11_kernel_24 : decode cX11_kernel 24 = .ok (.lstore 4, 2) := by decide +kernel
theorem dX11_kernel_26 : decode cX11_kernel 26 = .ok (.iconst 0, 1) := by decide +kernel
theorem dX11_kernel_27 : decode cX11_kernel 27 = .ok (.istore 6, 2) := by decide +kernel
theorem dX11_kernel_29 : decode cX11_kernel 29 = .ok (.iload 6, 2) := by decide +kernel
theorem dX11_kernel_31 : decode cX11_kernel 31 = .ok (.bipush 8, 2) := by decide +kernel
theorem dX11_kernel_33 : decode cX11_kernel 33 = .ok (.if_icmp .ge 52, 3) := by decide +kernel
theorem dX11_kernel_36 : decode cX11_kernel 36 = .ok (.lload 4, 2) := by decide +kernel
theorem dX11_kernel_38 : decode cX11_kernel 38 = .ok (.aload_n 0, 1) := by decide +kernel
theorem dX11_kernel_39 : decode cX11_kernel 39 = .ok (.iload_n 1, 1) := by decide +kernel
theorem dX11_kernel_40 : decode cX11_kernel 40 = .ok (.iload 6, 2) := by decide +kernel
theorem dX11_kernel_42 : decode cX11_kernel 42 = .ok (.invokevirtual 175, 3) := by decide +kernel
theorem dX11_kernel_45 : decode cX11_kernel 45 = .ok (.i2l, 1) := by decide +kernel
theorem dX11_kernel_46 : decode cX11_kernel 46 = .ok (.iload_n 2, 1) := by decide +kernel
theorem dX11_kernel_47 : decode cX11_kernel 47 = .ok (.i2l, 1) := by decide +kernel
theorem dX11_kernel_48 : decode cX11_kernel 48 = .ok (.iload 6, 2) := by decide +kernel
theorem dX11_kernel_50 : decode cX11_kernel 50 = .ok (.invokestatic 191, 3) := by decide +kernel
theorem dX11_kernel_53 : decode cX11_kernel 53 = .ok (.invokestatic 340, 3) := by decide +kernel
theorem w_1872 : Cond.methodLink "QuarterWalksModel" 340 yX11_by ∈ wAll := wI8 97 (by decide +kernel) (by decide +kernel)
theorem mk_X11_by : mk yX11_by 2 := ⟨by decide +kernel, w_110⟩
theorem w_1873 : Cond.static yX11_by ∈ wAll := wI8 98 (by decide +kernel) (by decide +kernel)
theorem w_1874 : Cond.code yX11_by cX11_by 3 (some .long) ∈ wAll := wI8 99 (by decide +kernel) (by decide +kernel)
theorem dX11_kernel_56 : decode cX11_kernel 56 = .ok (.lmul, 1) := by decide +kernel
theorem dX11_kernel_57 : decode cX11_kernel 57 = .ok (.ldc2_w 212, 3) := by decide +kernel
theorem dX11_kernel_60 : decode cX11_kernel 60 = .ok (.lrem, 1) := by decide +kernel
theorem dX11_kernel_61 : decode cX11_kernel 61 = .ok (.iload_n 3, 1) := by decide +kernel
theorem dX11_kernel_62 : decode cX11_kernel 62 = .ok (.i2l, 1) := by decide +kernel
theorem dX11_kernel_63 : decode cX11_kernel 63 = .ok (.iload 6, 2) := by decide +kernel
theorem dX11_kernel_65 : decode cX11_kernel 65 = .ok (.invokestatic 194, 3) := by decide +kernel
theorem dX11_kernel_68 : decode cX11_kernel 68 = .ok (.invokestatic 340, 3) := by decide +kernel
theorem dX11_kernel_71 : decode cX11_kernel 71 = .ok (.lmul, 1) := by decide +kernel
theorem dX11_kernel_72 : decode cX11_kernel 72 = .ok (.ldc2_w 212, 3) := by decide +kernel
theorem dX11_kernel_75 : decode cX11_kernel 75 = .ok (.lrem, 1) := by decide +kernel
theorem dX11_kernel_76 : decode cX11_kernel 76 = .ok (.ladd, 1) := by decide +kernel
theorem dX11_kernel_77 : decode cX11_kernel 77 = .ok (.lstore 4, 2) := by decide +kernel
theorem dX11_kernel_79 : decode cX11_kernel 79 = .ok (.iinc 6 1, 3) := by decide +kernel
theorem dX11_kernel_82 : decode cX11_kernel 82 = .ok (.goto (-53), 3) := by decide +kernel
theorem dX11_kernel_85 : decode cX11_kernel 85 = .ok (.lload 4, 2) := by decide +kernel
theorem dX11_kernel_87 : decode cX11_kernel 87 = .ok (.ldc2_w 212, 3) := by decide +kernel
theorem dX11_kernel_90 : decode cX11_kernel 90 = .ok (.lrem, 1) := by decide +kernel
theorem dX11_kernel_91 : decode cX11_kernel 91 = .ok (.l2i, 1) := by decide +kernel
theorem dX11_kernel_92 : decode cX11_kernel 92 = .ok (.ireturn, 1) := by decide +kernel
theorem dX11_kernel_22 : decode cX11_kernel 22 = .ok (.ireturn, 1) := by decide +kernel
theorem dX11_part_0 : decode cX11_part 0 = .ok (.lconst 0, 1) := by decide +kernel
theorem dX11_part_1 : decode cX11_part 1 = .ok (.lstore 6, 2) := by decide +kernel
theorem dX11_part_3 : decode cX11_part 3 = .ok (.iconst 0, 1) := by decide +kernel
theorem dX11_part_4 : decode cX11_part 4 = .ok (.istore 8, 2) := by decide +kernel
theorem dX11_part_6 : decode cX11_part 6 = .ok (.iload 8, 2) := by decide +kernel
theorem dX11_part_8 : decode cX11_part 8 = .ok (.bipush 8, 2) := by decide +kernel
theorem dX11_part_10 : decode cX11_part 10 = .ok (.if_icmp .ge 82, 3) := by decide +kernel
theorem dX11_part_13 : decode cX11_part 13 = .ok (.iload_n 2, 1) := by decide +kernel
theorem dX11_part_14 : decode cX11_part 14 = .ok (.ifCond .ne 11, 3) := by decide +kernel
theorem dX11_part_25 : decode cX11_part 25 = .ok (.iload 8, 2) := by decide +kernel
theorem dX11_part_27 : decode cX11_part 27 = .ok (.invokestatic 194, 3) := by decide +kernel
theorem dX11_part_17 : decode cX11_part 17 = .ok (.iload 8, 2) := by decide +kernel
theorem dX11_part_19 : decode cX11_part 19 = .ok (.invokestatic 191, 3) := by decide +kernel
theorem dX11_part_22 : decode cX11_part 22 = .ok (.goto 8, 3) := by decide +kernel
theorem dX11_part_30 : decode cX11_part 30 = .ok (.iload_n 3, 1) := by decide +kernel
theorem dX11_part_31 : decode cX11_part 31 = .ok (.if_icmp .ne 7, 3) := by decide +kernel
theorem dX11_part_38 : decode cX11_part 38 = .ok (.iconst 0, 1) := by decide +kernel
theorem dX11_part_34 : decode cX11_part 34 = .ok (.iconst 1, 1) := by decide +kernel
theorem dX11_part_35 : decode cX11_part 35 = .ok (.goto 4, 3) := by decide +kernel
theorem dX11_part_39 : decode cX11_part 39 = .ok (.istore 9, 2) := by decide +kernel
theorem dX11_part_41 : decode cX11_part 41 = .ok (.iload 9, 2) := by decide +kernel
theorem dX11_part_43 : decode cX11_part 43 = .ok (.ifCond .eq 43, 3) := by decide +kernel
theorem dX11_part_86 : decode cX11_part 86 = .ok (.iinc 8 1, 3) := by decide +kernel
theorem dX11_part_89 : decode cX11_part 89 = .ok (.goto (-83), 3) := by decide +kernel
theorem dX11_part_46 : decode cX11_part 46 = .ok (.lload 6, 2) := by decide +kernel
theorem dX11_part_48 : decode cX11_part 48 = .ok (.aload_n 0, 1) := by decide +kernel
theorem dX11_part_49 : decode cX11_part 49 = .ok (.iload_n 1, 1) := by decide +kernel
theorem dX11_part_50 : decode cX11_part 50 = .ok (.iload 8, 2) := by decide +kernel
theorem dX11_part_52 : decode cX11_part 52 = .ok (.invokevirtual 175, 3) := by decide +kernel
theorem dX11_part_55 : decode cX11_part 55 = .ok (.i2l, 1) := by decide +kernel
theorem dX11_part_56 : decode cX11_part 56 = .ok (.lload 4, 2) := by decide +kernel
theorem dX11_part_58 : decode cX11_part 58 = .ok (.iload_n 2, 1) := by decide +kernel
theorem dX11_part_59 : decode cX11_part 59 = .ok (.ifCond .ne 11, 3) := by decide +kernel
theorem dX11_part_70 : decode cX11_part 70 = .ok (.iload 8, 2) := by decide +kernel
theorem dX11_part_72 : decode cX11_part 72 = .ok (.invokestatic 191, 3) := by decide +kernel
theorem dX11_part_75 : decode cX11_part 75 = .ok (.invokestatic 340, 3) := by decide +kernel
theorem dX11_part_78 : decode cX11_part 78 = .ok (.lmul, 1) := by decide +kernel
theorem dX11_part_79 : decode cX11_part 79 = .ok (.ldc2_w 212, 3) := by decide +kernel
theorem dX11_part_82 : decode cX11_part 82 = .ok (.lrem, 1) := by decide +kernel
theorem dX11_part_83 : decode cX11_part 83 = .ok (.ladd, 1) := by decide +kernel
theorem dX11_part_84 : decode cX11_part 84 = .ok (.lstore 6, 2) := by decide +kernel
theorem dX11_part_62 : decode cX11_part 62 = .ok (.iload 8, 2) := by decide +kernel
theorem dX11_part_64 : decode cX11_part 64 = .ok (.invokestatic 194, 3) := by decide +kernel
theorem dX11_part_67 : decode cX11_part 67 = .ok (.goto 8, 3) := by decide +kernel
theorem dX11_part_92 : decode cX11_part 92 = .ok (.lload 6, 2) := by decide +kernel
theorem dX11_part_94 : decode cX11_part 94 = .ok (.ldc2_w 212, 3) := by decide +kernel
theorem dX11_part_97 : decode cX11_part 97 = .ok (.lrem, 1) := by decide +kernel
theorem dX11_part_98 : decode cX11_part 98 = .ok (.lreturn, 1) := by decide +kernel
theorem dX11_turns_0 : decode cX11_turns 0 = .ok (.iload 4, 2) := by decide +kernel
theorem dX11_turns_2 : decode cX11_turns 2 = .ok (.ifCond .ne 8, 3) := by decide +kernel
theorem dX11_turns_10 : decode cX11_turns 10 = .ok (.iload_n 2, 1) := by decide +kernel
theorem dX11_turns_11 : decode cX11_turns 11 = .ok (.i2l, 1) := by decide +kernel
theorem dX11_turns_5 : decode cX11_turns 5 = .ok (.iload_n 3, 1) := by decide +kernel
theorem dX11_turns_6 : decode cX11_turns 6 = .ok (.i2l, 1) := by decide +kernel
theorem dX11_turns_7 : decode cX11_turns 7 = .ok (.goto 5, 3) := by decide +kernel
theorem dX11_turns_12 : decode cX11_turns 12 = .ok (.lstore 5, 2) := by decide +kernel
theorem dX11_turns_14 : decode cX11_turns 14 = .ok (.aload_n 0, 1) := by decide +kernel
theorem dX11_turns_15 : decode cX11_turns 15 = .ok (.iload_n 1, 1) := by decide +kernel
theorem dX11_turns_16 : decode cX11_turns 16 = .ok (.iload 4, 2) := by decide +kernel
theorem dX11_turns_18 : decode cX11_turns 18 = .ok (.iconst 1, 1) := by decide +kernel
theorem dX11_turns_19 : decode cX11_turns 19 = .ok (.lload 5, 2) := by decide +kernel
theorem dX11_turns_21 : decode cX11_turns 21 = .ok (.invokevirtual 343, 3) := by decide +kernel
theorem w_1883 : Cond.methodLink "QuarterWalksModel" 343 yX11_part ∈ wAll := wI8 108 (by decide +kernel) (by decide +kernel)
theorem w_72 : Cond.selects yX11_part.cls yX11_part yX11_part ∈ wAll := wIn 72 (by decide +kernel) (by decide +kernel)
theorem mk_X11_part : mk yX11_part 4 := ⟨by decide +kernel, w_110⟩
theorem w_1885 : Cond.instanceMethod yX11_part ∈ wAll := wI8 110 (by decide +kernel) (by decide +kernel)
theorem w_1886 : Cond.code yX11_part cX11_part 10 (some .long) ∈ wAll := wI8 111 (by decide +kernel) (by decide +kernel)
theorem dX11_turns_24 : decode cX11_turns 24 = .ok (.lstore 7, 2) := by decide +kernel
theorem dX11_turns_26 : decode cX11_turns 26 = .ok (.aload_n 0, 1) := by decide +kernel
theorem dX11_turns_27 : decode cX11_turns 27 = .ok (.iload_n 1, 1) := by decide +kernel
theorem dX11_turns_28 : decode cX11_turns 28 = .ok (.iload 4, 2) := by decide +kernel
theorem dX11_turns_30 : decode cX11_turns 30 = .ok (.iconst (-1), 1) := by decide +kernel
theorem dX11_turns_31 : decode cX11_turns 31 = .ok (.lload 5, 2) := by decide +kernel
theorem dX11_turns_33 : decode cX11_turns 33 = .ok (.invokevirtual 343, 3) := by decide +kernel
theorem dX11_turns_36 : decode cX11_turns 36 = .ok (.lstore 9, 2) := by decide +kernel
theorem dX11_turns_38 : decode cX11_turns 38 = .ok (.lload 7, 2) := by decide +kernel
theorem dX11_turns_40 : decode cX11_turns 40 = .ok (.lconst 0, 1) := by decide +kernel
theorem dX11_turns_41 : decode cX11_turns 41 = .ok (.lcmp, 1) := by decide +kernel
theorem dX11_turns_42 : decode cX11_turns 42 = .ok (.ifCond .eq 10, 3) := by decide +kernel
theorem dX11_turns_52 : decode cX11_turns 52 = .ok (.iconst (-1), 1) := by decide +kernel
theorem dX11_turns_45 : decode cX11_turns 45 = .ok (.lload 9, 2) := by decide +kernel
theorem dX11_turns_47 : decode cX11_turns 47 = .ok (.lconst 0, 1) := by decide +kernel
theorem dX11_turns_48 : decode cX11_turns 48 = .ok (.lcmp, 1) := by decide +kernel
theorem dX11_turns_49 : decode cX11_turns 49 = .ok (.ifCond .ne 5, 3) := by decide +kernel
theorem dX11_turns_54 : decode cX11_turns 54 = .ok (.lload 9, 2) := by decide +kernel
theorem dX11_turns_56 : decode cX11_turns 56 = .ok (.lload 7, 2) := by decide +kernel
theorem dX11_turns_58 : decode cX11_turns 58 = .ok (.iload 4, 2) := by decide +kernel
theorem dX11_turns_60 : decode cX11_turns 60 = .ok (.ifCond .ne 7, 3) := by decide +kernel
theorem dX11_turns_67 : decode cX11_turns 67 = .ok (.iload_n 3, 1) := by decide +kernel
theorem dX11_turns_68 : decode cX11_turns 68 = .ok (.i2l, 1) := by decide +kernel
theorem dX11_turns_69 : decode cX11_turns 69 = .ok (.lmul, 1) := by decide +kernel
theorem dX11_turns_70 : decode cX11_turns 70 = .ok (.ldc2_w 212, 3) := by decide +kernel
theorem dX11_turns_73 : decode cX11_turns 73 = .ok (.lrem, 1) := by decide +kernel
theorem dX11_turns_74 : decode cX11_turns 74 = .ok (.invokestatic 297, 3) := by decide +kernel
theorem dX11_turns_77 : decode cX11_turns 77 = .ok (.lmul, 1) := by decide +kernel
theorem dX11_turns_78 : decode cX11_turns 78 = .ok (.ldc2_w 212, 3) := by decide +kernel
theorem dX11_turns_81 : decode cX11_turns 81 = .ok (.lrem, 1) := by decide +kernel
theorem dX11_turns_82 : decode cX11_turns 82 = .ok (.l2i, 1) := by decide +kernel
theorem dX11_turns_63 : decode cX11_turns 63 = .ok (.iload_n 2, 1) := by decide +kernel
theorem dX11_turns_64 : decode cX11_turns 64 = .ok (.goto 4, 3) := by decide +kernel
theorem dX11_turns_53 : decode cX11_turns 53 = .ok (.ireturn, 1) := by decide +kernel
theorem dX11_turns_83 : decode cX11_turns 83 = .ok (.ireturn, 1) := by decide +kernel
theorem dX11_turned_0 : decode cX11_turned 0 = .ok (.aload_n 0, 1) := by decide +kernel
theorem dX11_turned_1 : decode cX11_turned 1 = .ok (.iconst 0, 1) := by decide +kernel
theorem dX11_turned_2 : decode cX11_turned 2 = .ok (.putfield 75, 3) := by decide +kernel
theorem dX11_turned_5 : decode cX11_turned 5 = .ok (.aload_n 0, 1) := by decide +kernel
theorem dX11_turned_6 : decode cX11_turned 6 = .ok (.iload_n 1, 1) := by decide +kernel
theorem dX11_turned_7 : decode cX11_turned 7 = .ok (.invokevirtual 171, 3) := by decide +kernel
theorem dX11_turned_10 : decode cX11_turned 10 = .ok (.ifCond .eq 34, 3) := by decide +kernel
theorem dX11_turned_44 : decode cX11_turned 44 = .ok (.iconst (-1), 1) := by decide +kernel
theorem dX11_turned_13 : decode cX11_turned 13 = .ok (.iload_n 2, 1) := by decide +kernel
theorem dX11_turned_14 : decode cX11_turned 14 = .ok (.iload_n 3, 1) := by decide +kernel
theorem dX11_turned_15 : decode cX11_turned 15 = .ok (.invokestatic 337, 3) := by decide +kernel
theorem dX11_turned_18 : decode cX11_turned 18 = .ok (.ifCond .eq 26, 3) := by decide +kernel
theorem dX11_turned_21 : decode cX11_turned 21 = .ok (.iload 4, 2) := by decide +kernel
theorem dX11_turned_23 : decode cX11_turned 23 = .ok (.i2l, 1) := by decide +kernel
theorem dX11_turned_24 : decode cX11_turned 24 = .ok (.lconst 0, 1) := by decide +kernel
theorem dX11_turned_25 : decode cX11_turned 25 = .ok (.lconst 1, 1) := by decide +kernel
theorem dX11_turned_26 : decode cX11_turned 26 = .ok (.invokestatic 158, 3) := by decide +kernel
theorem dX11_turned_29 : decode cX11_turned 29 = .ok (.ifCond .eq 15, 3) := by decide +kernel
theorem dX11_turned_32 : decode cX11_turned 32 = .ok (.aload_n 0, 1) := by decide +kernel
theorem dX11_turned_33 : decode cX11_turned 33 = .ok (.iload_n 1, 1) := by decide +kernel
theorem dX11_turned_34 : decode cX11_turned 34 = .ok (.iload_n 2, 1) := by decide +kernel
theorem dX11_turned_35 : decode cX11_turned 35 = .ok (.iload_n 3, 1) := by decide +kernel
theorem dX11_turned_36 : decode cX11_turned 36 = .ok (.iload 4, 2) := by decide +kernel
theorem dX11_turned_38 : decode cX11_turned 38 = .ok (.invokevirtual 347, 3) := by decide +kernel
theorem w_1879 : Cond.methodLink "QuarterWalksModel" 347 yX11_turns ∈ wAll := wI8 104 (by decide +kernel) (by decide +kernel)
theorem w_71 : Cond.selects yX11_turns.cls yX11_turns yX11_turns ∈ wAll := wIn 71 (by decide +kernel) (by decide +kernel)
theorem mk_X11_turns : mk yX11_turns 4 := ⟨by decide +kernel, w_110⟩
theorem w_1881 : Cond.instanceMethod yX11_turns ∈ wAll := wI8 106 (by decide +kernel) (by decide +kernel)
theorem w_1882 : Cond.code yX11_turns cX11_turns 11 (some .int) ∈ wAll := wI8 107 (by decide +kernel) (by decide +kernel)
theorem dX11_turned_41 : decode cX11_turned 41 = .ok (.goto 4, 3) := by decide +kernel
theorem dX11_turned_45 : decode cX11_turned 45 = .ok (.ireturn, 1) := by decide +kernel
theorem dX11_laysOrbit_0 : decode cX11_laysOrbit 0 = .ok (.aload_n 0, 1) := by decide +kernel
theorem dX11_laysOrbit_1 : decode cX11_laysOrbit 1 = .ok (.getfield 48, 3) := by decide +kernel
theorem w_1453 : Cond.fieldLink "QuarterWalksModel" 48 "QuarterWalksModel" "orbitX" "[I" ∈ wAll := wI6 158 (by decide +kernel) (by decide +kernel)
theorem fl_X11_48 : fl RX11 48 12 20 := ⟨RX11, TX11, 32, rfl, inA_X11, by decide, w_1453⟩
theorem dX11_laysOrbit_4 : decode cX11_laysOrbit 4 = .ok (.iconst 0, 1) := by decide +kernel
theorem dX11_laysOrbit_5 : decode cX11_laysOrbit 5 = .ok (.iload_n 2, 1) := by decide +kernel
theorem dX11_laysOrbit_6 : decode cX11_laysOrbit 6 = .ok (.iastore, 1) := by decide +kernel
theorem dX11_laysOrbit_7 : decode cX11_laysOrbit 7 = .ok (.aload_n 0, 1) := by decide +kernel
theorem dX11_laysOrbit_8 : decode cX11_laysOrbit 8 = .ok (.getfield 51, 3) := by decide +kernel
theorem w_1454 : Cond.fieldLink "QuarterWalksModel" 51 "QuarterWalksModel" "orbitY" "[I" ∈ wAll := wI6 159 (by decide +kernel) (by decide +kernel)
theorem fl_X11_51 : fl RX11 51 12 21 := ⟨RX11, TX11, 32, rfl, inA_X11, by decide, w_1454⟩
theorem dX11_laysOrbit_11 : decode cX11_laysOrbit 11 = .ok (.iconst 0, 1) := by decide +kernel
theorem dX11_laysOrbit_12 : decode cX11_laysOrbit 12 = .ok (.iload_n 3, 1) := by decide +kernel
theorem dX11_laysOrbit_13 : decode cX11_laysOrbit 13 = .ok (.iastore, 1) := by decide +kernel
theorem dX11_laysOrbit_14 : decode cX11_laysOrbit 14 = .ok (.iconst 1, 1) := by decide +kernel
theorem dX11_laysOrbit_15 : decode cX11_laysOrbit 15 = .ok (.istore 4, 2) := by decide +kernel
theorem dX11_laysOrbit_17 : decode cX11_laysOrbit 17 = .ok (.iload 4, 2) := by decide +kernel
theorem dX11_laysOrbit_19 : decode cX11_laysOrbit 19 = .ok (.bipush 40, 2) := by decide +kernel
theorem dX11_laysOrbit_21 : decode cX11_laysOrbit 21 = .ok (.if_icmp .gt 136, 3) := by decide +kernel
theorem dX11_laysOrbit_24 : decode cX11_laysOrbit 24 = .ok (.iload 4, 2) := by decide +kernel
theorem dX11_laysOrbit_26 : decode cX11_laysOrbit 26 = .ok (.iconst 1, 1) := by decide +kernel
theorem dX11_laysOrbit_27 : decode cX11_laysOrbit 27 = .ok (.isub, 1) := by decide +kernel
theorem dX11_laysOrbit_28 : decode cX11_laysOrbit 28 = .ok (.iconst 2, 1) := by decide +kernel
theorem dX11_laysOrbit_29 : decode cX11_laysOrbit 29 = .ok (.irem, 1) := by decide +kernel
theorem dX11_laysOrbit_30 : decode cX11_laysOrbit 30 = .ok (.istore 5, 2) := by decide +kernel
theorem dX11_laysOrbit_32 : decode cX11_laysOrbit 32 = .ok (.aload_n 0, 1) := by decide +kernel
theorem dX11_laysOrbit_33 : decode cX11_laysOrbit 33 = .ok (.iload_n 1, 1) := by decide +kernel
theorem dX11_laysOrbit_34 : decode cX11_laysOrbit 34 = .ok (.aload_n 0, 1) := by decide +kernel
theorem dX11_laysOrbit_35 : decode cX11_laysOrbit 35 = .ok (.getfield 48, 3) := by decide +kernel
theorem dX11_laysOrbit_38 : decode cX11_laysOrbit 38 = .ok (.iload 4, 2) := by decide +kernel
theorem dX11_laysOrbit_40 : decode cX11_laysOrbit 40 = .ok (.iconst 1, 1) := by decide +kernel
theorem dX11_laysOrbit_41 : decode cX11_laysOrbit 41 = .ok (.isub, 1) := by decide +kernel
theorem dX11_laysOrbit_42 : decode cX11_laysOrbit 42 = .ok (.iaload, 1) := by decide +kernel
theorem dX11_laysOrbit_43 : decode cX11_laysOrbit 43 = .ok (.aload_n 0, 1) := by decide +kernel
theorem dX11_laysOrbit_44 : decode cX11_laysOrbit 44 = .ok (.getfield 51, 3) := by decide +kernel
theorem dX11_laysOrbit_47 : decode cX11_laysOrbit 47 = .ok (.iload 4, 2) := by decide +kernel
theorem dX11_laysOrbit_49 : decode cX11_laysOrbit 49 = .ok (.iconst 1, 1) := by decide +kernel
theorem dX11_laysOrbit_50 : decode cX11_laysOrbit 50 = .ok (.isub, 1) := by decide +kernel
theorem dX11_laysOrbit_51 : decode cX11_laysOrbit 51 = .ok (.iaload, 1) := by decide +kernel
theorem dX11_laysOrbit_52 : decode cX11_laysOrbit 52 = .ok (.iload 5, 2) := by decide +kernel
theorem dX11_laysOrbit_54 : decode cX11_laysOrbit 54 = .ok (.invokevirtual 347, 3) := by decide +kernel
theorem dX11_laysOrbit_57 : decode cX11_laysOrbit 57 = .ok (.istore 6, 2) := by decide +kernel
theorem dX11_laysOrbit_59 : decode cX11_laysOrbit 59 = .ok (.iload 6, 2) := by decide +kernel
theorem dX11_laysOrbit_61 : decode cX11_laysOrbit 61 = .ok (.iconst (-1), 1) := by decide +kernel
theorem dX11_laysOrbit_62 : decode cX11_laysOrbit 62 = .ok (.if_icmp .ne 5, 3) := by decide +kernel
theorem dX11_laysOrbit_67 : decode cX11_laysOrbit 67 = .ok (.aload_n 0, 1) := by decide +kernel
theorem dX11_laysOrbit_68 : decode cX11_laysOrbit 68 = .ok (.getfield 48, 3) := by decide +kernel
theorem dX11_laysOrbit_71 : decode cX11_laysOrbit 71 = .ok (.iload 4, 2) := by decide +kernel
theorem dX11_laysOrbit_73 : decode cX11_laysOrbit 73 = .ok (.iload 5, 2) := by decide +kernel
theorem dX11_laysOrbit_75 : decode cX11_laysOrbit 75 = .ok (.ifCond .ne 8, 3) := by decide +kernel
theorem dX11_laysOrbit_83 : decode cX11_laysOrbit 83 = .ok (.aload_n 0, 1) := by decide +kernel
theorem dX11_laysOrbit_84 : decode cX11_laysOrbit 84 = .ok (.getfield 48, 3) := by decide +kernel
theorem dX11_laysOrbit_87 : decode cX11_laysOrbit 87 = .ok (.iload 4, 2) := by decide +kernel
theorem dX11_laysOrbit_89 : decode cX11_laysOrbit 89 = .ok (.iconst 1, 1) := by decide +kernel
theorem dX11_laysOrbit_90 : decode cX11_laysOrbit 90 = .ok (.isub, 1) := by decide +kernel
theorem dX11_laysOrbit_91 : decode cX11_laysOrbit 91 = .ok (.iaload, 1) := by decide +kernel
theorem dX11_laysOrbit_78 : decode cX11_laysOrbit 78 = .ok (.iload 6, 2) := by decide +kernel
theorem dX11_laysOrbit_80 : decode cX11_laysOrbit 80 = .ok (.goto 12, 3) := by decide +kernel
theorem dX11_laysOrbit_65 : decode cX11_laysOrbit 65 = .ok (.iconst (-1), 1) := by decide +kernel
theorem dX11_laysOrbit_92 : decode cX11_laysOrbit 92 = .ok (.iastore, 1) := by decide +kernel
theorem dX11_laysOrbit_93 : decode cX11_laysOrbit 93 = .ok (.aload_n 0, 1) := by decide +kernel
theorem dX11_laysOrbit_94 : decode cX11_laysOrbit 94 = .ok (.getfield 51, 3) := by decide +kernel
theorem dX11_laysOrbit_97 : decode cX11_laysOrbit 97 = .ok (.iload 4, 2) := by decide +kernel
theorem dX11_laysOrbit_99 : decode cX11_laysOrbit 99 = .ok (.iload 5, 2) := by decide +kernel
theorem dX11_laysOrbit_101 : decode cX11_laysOrbit 101 = .ok (.iconst 1, 1) := by decide +kernel
theorem dX11_laysOrbit_102 : decode cX11_laysOrbit 102 = .ok (.if_icmp .ne 8, 3) := by decide +kernel
theorem dX11_laysOrbit_110 : decode cX11_laysOrbit 110 = .ok (.aload_n 0, 1) := by decide +kernel
theorem dX11_laysOrbit_111 : decode cX11_laysOrbit 111 = .ok (.getfield 51, 3) := by decide +kernel
theorem dX11_laysOrbit_114 : decode cX11_laysOrbit 114 = .ok (.iload 4, 2) := by decide +kernel
theorem dX11_laysOrbit_116 : decode cX11_laysOrbit 116 = .ok (.iconst 1, 1) := by decide +kernel
theorem dX11_laysOrbit_117 : decode cX11_laysOrbit 117 = .ok (.isub, 1) := by decide +kernel
theorem dX11_laysOrbit_118 : decode cX11_laysOrbit 118 = .ok (.iaload, 1) := by decide +kernel
theorem dX11_laysOrbit_105 : decode cX11_laysOrbit 105 = .ok (.iload 6, 2) := by decide +kernel
theorem dX11_laysOrbit_107 : decode cX11_laysOrbit 107 = .ok (.goto 12, 3) := by decide +kernel
theorem dX11_laysOrbit_119 : decode cX11_laysOrbit 119 = .ok (.iastore, 1) := by decide +kernel
theorem dX11_laysOrbit_120 : decode cX11_laysOrbit 120 = .ok (.iload 5, 2) := by decide +kernel
theorem dX11_laysOrbit_122 : decode cX11_laysOrbit 122 = .ok (.iconst 1, 1) := by decide +kernel
theorem dX11_laysOrbit_123 : decode cX11_laysOrbit 123 = .ok (.if_icmp .ne 28, 3) := by decide +kernel
theorem dX11_laysOrbit_151 : decode cX11_laysOrbit 151 = .ok (.iinc 4 1, 3) := by decide +kernel
theorem dX11_laysOrbit_154 : decode cX11_laysOrbit 154 = .ok (.goto (-137), 3) := by decide +kernel
theorem dX11_laysOrbit_126 : decode cX11_laysOrbit 126 = .ok (.aload_n 0, 1) := by decide +kernel
theorem dX11_laysOrbit_127 : decode cX11_laysOrbit 127 = .ok (.getfield 48, 3) := by decide +kernel
theorem dX11_laysOrbit_130 : decode cX11_laysOrbit 130 = .ok (.iload 4, 2) := by decide +kernel
theorem dX11_laysOrbit_132 : decode cX11_laysOrbit 132 = .ok (.iaload, 1) := by decide +kernel
theorem dX11_laysOrbit_133 : decode cX11_laysOrbit 133 = .ok (.iload_n 2, 1) := by decide +kernel
theorem dX11_laysOrbit_134 : decode cX11_laysOrbit 134 = .ok (.if_icmp .ne 17, 3) := by decide +kernel
theorem dX11_laysOrbit_137 : decode cX11_laysOrbit 137 = .ok (.aload_n 0, 1) := by decide +kernel
theorem dX11_laysOrbit_138 : decode cX11_laysOrbit 138 = .ok (.getfield 51, 3) := by decide +kernel
theorem dX11_laysOrbit_141 : decode cX11_laysOrbit 141 = .ok (.iload 4, 2) := by decide +kernel
theorem dX11_laysOrbit_143 : decode cX11_laysOrbit 143 = .ok (.iaload, 1) := by decide +kernel
theorem dX11_laysOrbit_144 : decode cX11_laysOrbit 144 = .ok (.iload_n 3, 1) := by decide +kernel
theorem dX11_laysOrbit_145 : decode cX11_laysOrbit 145 = .ok (.if_icmp .ne 6, 3) := by decide +kernel
theorem dX11_laysOrbit_148 : decode cX11_laysOrbit 148 = .ok (.iload 4, 2) := by decide +kernel
theorem dX11_laysOrbit_157 : decode cX11_laysOrbit 157 = .ok (.iconst (-1), 1) := by decide +kernel
theorem dX11_laysOrbit_150 : decode cX11_laysOrbit 150 = .ok (.ireturn, 1) := by decide +kernel
theorem dX11_laysOrbit_158 : decode cX11_laysOrbit 158 = .ok (.ireturn, 1) := by decide +kernel
theorem dX11_laysOrbit_66 : decode cX11_laysOrbit 66 = .ok (.ireturn, 1) := by decide +kernel
theorem dX11_orbit_0 : decode cX11_orbit 0 = .ok (.aload_n 0, 1) := by decide +kernel
theorem dX11_orbit_1 : decode cX11_orbit 1 = .ok (.iconst 0, 1) := by decide +kernel
theorem dX11_orbit_2 : decode cX11_orbit 2 = .ok (.putfield 75, 3) := by decide +kernel
theorem dX11_orbit_5 : decode cX11_orbit 5 = .ok (.aload_n 0, 1) := by decide +kernel
theorem dX11_orbit_6 : decode cX11_orbit 6 = .ok (.iload_n 1, 1) := by decide +kernel
theorem dX11_orbit_7 : decode cX11_orbit 7 = .ok (.invokevirtual 171, 3) := by decide +kernel
theorem dX11_orbit_10 : decode cX11_orbit 10 = .ok (.ifCond .eq 34, 3) := by decide +kernel
theorem dX11_orbit_44 : decode cX11_orbit 44 = .ok (.bipush (-2), 2) := by decide +kernel
theorem dX11_orbit_13 : decode cX11_orbit 13 = .ok (.iload_n 2, 1) := by decide +kernel
theorem dX11_orbit_14 : decode cX11_orbit 14 = .ok (.iload_n 3, 1) := by decide +kernel
theorem dX11_orbit_15 : decode cX11_orbit 15 = .ok (.invokestatic 337, 3) := by decide +kernel
theorem dX11_orbit_18 : decode cX11_orbit 18 = .ok (.ifCond .eq 26, 3) := by decide +kernel
theorem dX11_orbit_21 : decode cX11_orbit 21 = .ok (.iload 4, 2) := by decide +kernel
theorem dX11_orbit_23 : decode cX11_orbit 23 = .ok (.iconst (-1), 1) := by decide +kernel
theorem dX11_orbit_24 : decode cX11_orbit 24 = .ok (.if_icmp .lt 20, 3) := by decide +kernel
theorem dX11_orbit_27 : decode cX11_orbit 27 = .ok (.iload 4, 2) := by decide +kernel
theorem dX11_orbit_29 : decode cX11_orbit 29 = .ok (.iconst (-1), 1) := by decide +kernel
theorem dX11_orbit_30 : decode cX11_orbit 30 = .ok (.if_icmp .eq 17, 3) := by decide +kernel
theorem dX11_orbit_33 : decode cX11_orbit 33 = .ok (.iload 5, 2) := by decide +kernel
theorem dX11_orbit_35 : decode cX11_orbit 35 = .ok (.i2l, 1) := by decide +kernel
theorem dX11_orbit_36 : decode cX11_orbit 36 = .ok (.lconst 0, 1) := by decide +kernel
theorem dX11_orbit_37 : decode cX11_orbit 37 = .ok (.lconst 1, 1) := by decide +kernel
theorem dX11_orbit_38 : decode cX11_orbit 38 = .ok (.invokestatic 158, 3) := by decide +kernel
theorem dX11_orbit_41 : decode cX11_orbit 41 = .ok (.ifCond .ne 6, 3) := by decide +kernel
theorem dX11_orbit_47 : decode cX11_orbit 47 = .ok (.aload_n 0, 1) := by decide +kernel
theorem dX11_orbit_48 : decode cX11_orbit 48 = .ok (.iload_n 1, 1) := by decide +kernel
theorem dX11_orbit_49 : decode cX11_orbit 49 = .ok (.iload_n 2, 1) := by decide +kernel
theorem dX11_orbit_50 : decode cX11_orbit 50 = .ok (.iload_n 3, 1) := by decide +kernel
theorem dX11_orbit_51 : decode cX11_orbit 51 = .ok (.invokevirtual 351, 3) := by decide +kernel
theorem w_1891 : Cond.methodLink "QuarterWalksModel" 351 yX11_laysOrbit ∈ wAll := wI8 116 (by decide +kernel) (by decide +kernel)
theorem w_73 : Cond.selects yX11_laysOrbit.cls yX11_laysOrbit yX11_laysOrbit ∈ wAll := wIn 73 (by decide +kernel) (by decide +kernel)
theorem mk_X11_laysOrbit : mk yX11_laysOrbit 3 := ⟨by decide +kernel, w_110⟩
theorem w_1893 : Cond.instanceMethod yX11_laysOrbit ∈ wAll := wI8 118 (by decide +kernel) (by decide +kernel)
theorem w_1894 : Cond.code yX11_laysOrbit cX11_laysOrbit 7 (some .int) ∈ wAll := wI8 119 (by decide +kernel) (by decide +kernel)
theorem dX11_orbit_54 : decode cX11_orbit 54 = .ok (.istore 6, 2) := by decide +kernel
theorem dX11_orbit_56 : decode cX11_orbit 56 = .ok (.iload 6, 2) := by decide +kernel
theorem dX11_orbit_58 : decode cX11_orbit 58 = .ok (.iconst (-1), 1) := by decide +kernel
theorem dX11_orbit_59 : decode cX11_orbit 59 = .ok (.if_icmp .eq 9, 3) := by decide +kernel
theorem dX11_orbit_68 : decode cX11_orbit 68 = .ok (.iload 6, 2) := by decide +kernel
theorem dX11_orbit_62 : decode cX11_orbit 62 = .ok (.iload 4, 2) := by decide +kernel
theorem dX11_orbit_64 : decode cX11_orbit 64 = .ok (.iconst (-1), 1) := by decide +kernel
theorem dX11_orbit_65 : decode cX11_orbit 65 = .ok (.if_icmp .ne 6, 3) := by decide +kernel
theorem dX11_orbit_71 : decode cX11_orbit 71 = .ok (.iload 4, 2) := by decide +kernel
theorem dX11_orbit_73 : decode cX11_orbit 73 = .ok (.iload 6, 2) := by decide +kernel
theorem dX11_orbit_75 : decode cX11_orbit 75 = .ok (.if_icmp .lt 6, 3) := by decide +kernel
theorem dX11_orbit_81 : decode cX11_orbit 81 = .ok (.iload 5, 2) := by decide +kernel
theorem dX11_orbit_83 : decode cX11_orbit 83 = .ok (.ifCond .ne 13, 3) := by decide +kernel
theorem dX11_orbit_96 : decode cX11_orbit 96 = .ok (.aload_n 0, 1) := by decide +kernel
theorem dX11_orbit_97 : decode cX11_orbit 97 = .ok (.getfield 51, 3) := by decide +kernel
theorem dX11_orbit_100 : decode cX11_orbit 100 = .ok (.iload 4, 2) := by decide +kernel
theorem dX11_orbit_102 : decode cX11_orbit 102 = .ok (.iaload, 1) := by decide +kernel
theorem dX11_orbit_86 : decode cX11_orbit 86 = .ok (.aload_n 0, 1) := by decide +kernel
theorem dX11_orbit_87 : decode cX11_orbit 87 = .ok (.getfield 48, 3) := by decide +kernel
theorem dX11_orbit_90 : decode cX11_orbit 90 = .ok (.iload 4, 2) := by decide +kernel
theorem dX11_orbit_92 : decode cX11_orbit 92 = .ok (.iaload, 1) := by decide +kernel
theorem dX11_orbit_93 : decode cX11_orbit 93 = .ok (.goto 10, 3) := by decide +kernel
theorem dX11_orbit_78 : decode cX11_orbit 78 = .ok (.bipush (-2), 2) := by decide +kernel
theorem dX11_orbit_70 : decode cX11_orbit 70 = .ok (.ireturn, 1) := by decide +kernel
theorem dX11_orbit_103 : decode cX11_orbit 103 = .ok (.ireturn, 1) := by decide +kernel
theorem dX11_orbit_80 : decode cX11_orbit 80 = .ok (.ireturn, 1) := by decide +kernel
theorem dX11_orbit_46 : decode cX11_orbit 46 = .ok (.ireturn, 1) := by decide +kernel
theorem dX11_groupOf_0 : decode cX11_groupOf 0 = .ok (.aload_n 0, 1) := by decide +kernel
theorem dX11_groupOf_1 : decode cX11_groupOf 1 = .ok (.iload_n 1, 1) := by decide +kernel
theorem dX11_groupOf_2 : decode cX11_groupOf 2 = .ok (.iconst 2, 1) := by decide +kernel
theorem dX11_groupOf_3 : decode cX11_groupOf 3 = .ok (.iconst 3, 1) := by decide +kernel
theorem dX11_groupOf_4 : decode cX11_groupOf 4 = .ok (.invokevirtual 351, 3) := by decide +kernel
theorem dX11_groupOf_7 : decode cX11_groupOf 7 = .ok (.istore_n 2, 1) := by decide +kernel
theorem dX11_groupOf_8 : decode cX11_groupOf 8 = .ok (.aload_n 0, 1) := by decide +kernel
theorem dX11_groupOf_9 : decode cX11_groupOf 9 = .ok (.iload_n 1, 1) := by decide +kernel
theorem dX11_groupOf_10 : decode cX11_groupOf 10 = .ok (.iconst 5, 1) := by decide +kernel
theorem dX11_groupOf_11 : decode cX11_groupOf 11 = .ok (.bipush 7, 2) := by decide +kernel
theorem dX11_groupOf_13 : decode cX11_groupOf 13 = .ok (.invokevirtual 351, 3) := by decide +kernel
theorem dX11_groupOf_16 : decode cX11_groupOf 16 = .ok (.istore_n 3, 1) := by decide +kernel
theorem dX11_groupOf_17 : decode cX11_groupOf 17 = .ok (.aload_n 0, 1) := by decide +kernel
theorem dX11_groupOf_18 : decode cX11_groupOf 18 = .ok (.iload_n 1, 1) := by decide +kernel
theorem dX11_groupOf_19 : decode cX11_groupOf 19 = .ok (.bipush 11, 2) := by decide +kernel
theorem dX11_groupOf_21 : decode cX11_groupOf 21 = .ok (.bipush 13, 2) := by decide +kernel
theorem dX11_groupOf_23 : decode cX11_groupOf 23 = .ok (.invokevirtual 351, 3) := by decide +kernel
theorem dX11_groupOf_26 : decode cX11_groupOf 26 = .ok (.istore 4, 2) := by decide +kernel
theorem dX11_groupOf_28 : decode cX11_groupOf 28 = .ok (.iload_n 2, 1) := by decide +kernel
theorem dX11_groupOf_29 : decode cX11_groupOf 29 = .ok (.iconst (-1), 1) := by decide +kernel
theorem dX11_groupOf_30 : decode cX11_groupOf 30 = .ok (.if_icmp .eq 14, 3) := by decide +kernel
theorem dX11_groupOf_44 : decode cX11_groupOf 44 = .ok (.iconst (-1), 1) := by decide +kernel
theorem dX11_groupOf_45 : decode cX11_groupOf 45 = .ok (.goto 13, 3) := by decide +kernel
theorem dX11_groupOf_33 : decode cX11_groupOf 33 = .ok (.iload_n 3, 1) := by decide +kernel
theorem dX11_groupOf_34 : decode cX11_groupOf 34 = .ok (.iconst (-1), 1) := by decide +kernel
theorem dX11_groupOf_35 : decode cX11_groupOf 35 = .ok (.if_icmp .eq 9, 3) := by decide +kernel
theorem dX11_groupOf_38 : decode cX11_groupOf 38 = .ok (.iload 4, 2) := by decide +kernel
theorem dX11_groupOf_40 : decode cX11_groupOf 40 = .ok (.iconst (-1), 1) := by decide +kernel
theorem dX11_groupOf_41 : decode cX11_groupOf 41 = .ok (.if_icmp .ne 7, 3) := by decide +kernel
theorem dX11_groupOf_48 : decode cX11_groupOf 48 = .ok (.iload_n 2, 1) := by decide +kernel
theorem dX11_groupOf_49 : decode cX11_groupOf 49 = .ok (.iload_n 3, 1) := by decide +kernel
theorem dX11_groupOf_50 : decode cX11_groupOf 50 = .ok (.iload 4, 2) := by decide +kernel
theorem dX11_groupOf_52 : decode cX11_groupOf 52 = .ok (.invokestatic 355, 3) := by decide +kernel
theorem w_1903 : Cond.methodLink "QuarterWalksModel" 355 yJ9_max_7cf53 ∈ wAll := wI8 128 (by decide +kernel) (by decide +kernel)
theorem w_453 : Cond.static yJ9_max_7cf53 ∈ wAll := wI2 118 (by decide +kernel) (by decide +kernel)
theorem w_112 : Cond.initialized "java/lang/Math" ∈ wAll := wI1 17 (by decide +kernel) (by decide +kernel)
theorem w_454 : Cond.code yJ9_max_7cf53 cJ9_max_7cf53 2 (some .int) ∈ wAll := wI2 119 (by decide +kernel) (by decide +kernel)
theorem dX11_groupOf_55 : decode cX11_groupOf 55 = .ok (.invokestatic 355, 3) := by decide +kernel
theorem dX11_groupOf_58 : decode cX11_groupOf 58 = .ok (.ireturn, 1) := by decide +kernel
theorem dX11_group_0 : decode cX11_group 0 = .ok (.aload_n 0, 1) := by decide +kernel
theorem dX11_group_1 : decode cX11_group 1 = .ok (.iconst 0, 1) := by decide +kernel
theorem dX11_group_2 : decode cX11_group 2 = .ok (.putfield 75, 3) := by decide +kernel
theorem dX11_group_5 : decode cX11_group 5 = .ok (.aload_n 0, 1) := by decide +kernel
theorem dX11_group_6 : decode cX11_group 6 = .ok (.iload_n 1, 1) := by decide +kernel
theorem dX11_group_7 : decode cX11_group 7 = .ok (.invokevirtual 171, 3) := by decide +kernel
theorem dX11_group_10 : decode cX11_group 10 = .ok (.ifCond .eq 11, 3) := by decide +kernel
theorem dX11_group_21 : decode cX11_group 21 = .ok (.bipush (-2), 2) := by decide +kernel
theorem dX11_group_13 : decode cX11_group 13 = .ok (.aload_n 0, 1) := by decide +kernel
theorem dX11_group_14 : decode cX11_group 14 = .ok (.iload_n 1, 1) := by decide +kernel
theorem dX11_group_15 : decode cX11_group 15 = .ok (.invokevirtual 358, 3) := by decide +kernel
theorem w_1899 : Cond.methodLink "QuarterWalksModel" 358 yX11_groupOf ∈ wAll := wI8 124 (by decide +kernel) (by decide +kernel)
theorem w_74 : Cond.selects yX11_groupOf.cls yX11_groupOf yX11_groupOf ∈ wAll := wIn 74 (by decide +kernel) (by decide +kernel)
theorem mk_X11_groupOf : mk yX11_groupOf 1 := ⟨by decide +kernel, w_110⟩
theorem w_1901 : Cond.instanceMethod yX11_groupOf ∈ wAll := wI8 126 (by decide +kernel) (by decide +kernel)
theorem w_1902 : Cond.code yX11_groupOf cX11_groupOf 5 (some .int) ∈ wAll := wI8 127 (by decide +kernel) (by decide +kernel)
theorem dX11_group_18 : decode cX11_group 18 = .ok (.goto 5, 3) := by decide +kernel
theorem dX11_group_23 : decode cX11_group 23 = .ok (.ireturn, 1) := by decide +kernel
theorem dX11_sum_0 : decode cX11_sum 0 = .ok (.aload_n 0, 1) := by decide +kernel
theorem dX11_sum_1 : decode cX11_sum 1 = .ok (.iconst 0, 1) := by decide +kernel
theorem dX11_sum_2 : decode cX11_sum 2 = .ok (.putfield 75, 3) := by decide +kernel
theorem dX11_sum_5 : decode cX11_sum 5 = .ok (.aload_n 0, 1) := by decide +kernel
theorem dX11_sum_6 : decode cX11_sum 6 = .ok (.iload_n 1, 1) := by decide +kernel
theorem dX11_sum_7 : decode cX11_sum 7 = .ok (.invokevirtual 171, 3) := by decide +kernel
theorem dX11_sum_10 : decode cX11_sum 10 = .ok (.ifCond .eq 11, 3) := by decide +kernel
theorem dX11_sum_21 : decode cX11_sum 21 = .ok (.bipush (-2), 2) := by decide +kernel
theorem dX11_sum_13 : decode cX11_sum 13 = .ok (.iload_n 2, 1) := by decide +kernel
theorem dX11_sum_14 : decode cX11_sum 14 = .ok (.iload_n 3, 1) := by decide +kernel
theorem dX11_sum_15 : decode cX11_sum 15 = .ok (.invokestatic 337, 3) := by decide +kernel
theorem dX11_sum_18 : decode cX11_sum 18 = .ok (.ifCond .ne 6, 3) := by decide +kernel
theorem dX11_sum_24 : decode cX11_sum 24 = .ok (.aload_n 0, 1) := by decide +kernel
theorem dX11_sum_25 : decode cX11_sum 25 = .ok (.iload_n 1, 1) := by decide +kernel
theorem dX11_sum_26 : decode cX11_sum 26 = .ok (.iload_n 2, 1) := by decide +kernel
theorem dX11_sum_27 : decode cX11_sum 27 = .ok (.iload_n 3, 1) := by decide +kernel
theorem dX11_sum_28 : decode cX11_sum 28 = .ok (.invokevirtual 351, 3) := by decide +kernel
theorem dX11_sum_31 : decode cX11_sum 31 = .ok (.istore 4, 2) := by decide +kernel
theorem dX11_sum_33 : decode cX11_sum 33 = .ok (.iload 4, 2) := by decide +kernel
theorem dX11_sum_35 : decode cX11_sum 35 = .ok (.iconst (-1), 1) := by decide +kernel
theorem dX11_sum_36 : decode cX11_sum 36 = .ok (.if_icmp .ne 5, 3) := by decide +kernel
theorem dX11_sum_41 : decode cX11_sum 41 = .ok (.lconst 0, 1) := by decide +kernel
theorem dX11_sum_42 : decode cX11_sum 42 = .ok (.lstore 5, 2) := by decide +kernel
theorem dX11_sum_44 : decode cX11_sum 44 = .ok (.iconst 0, 1) := by decide +kernel
theorem dX11_sum_45 : decode cX11_sum 45 = .ok (.istore 7, 2) := by decide +kernel
theorem dX11_sum_39 : decode cX11_sum 39 = .ok (.iconst (-1), 1) := by decide +kernel
theorem dX11_sum_47 : decode cX11_sum 47 = .ok (.iload 7, 2) := by decide +kernel
theorem dX11_sum_49 : decode cX11_sum 49 = .ok (.iload 4, 2) := by decide +kernel
theorem dX11_sum_51 : decode cX11_sum 51 = .ok (.if_icmp .ge 55, 3) := by decide +kernel
theorem dX11_sum_106 : decode cX11_sum 106 = .ok (.lload 5, 2) := by decide +kernel
theorem dX11_sum_108 : decode cX11_sum 108 = .ok (.ldc2_w 212, 3) := by decide +kernel
theorem dX11_sum_111 : decode cX11_sum 111 = .ok (.lrem, 1) := by decide +kernel
theorem dX11_sum_112 : decode cX11_sum 112 = .ok (.l2i, 1) := by decide +kernel
theorem dX11_sum_54 : decode cX11_sum 54 = .ok (.aload_n 0, 1) := by decide +kernel
theorem dX11_sum_55 : decode cX11_sum 55 = .ok (.getfield 48, 3) := by decide +kernel
theorem dX11_sum_58 : decode cX11_sum 58 = .ok (.iload 7, 2) := by decide +kernel
theorem dX11_sum_60 : decode cX11_sum 60 = .ok (.iaload, 1) := by decide +kernel
theorem dX11_sum_61 : decode cX11_sum 61 = .ok (.i2l, 1) := by decide +kernel
theorem dX11_sum_62 : decode cX11_sum 62 = .ok (.aload_n 0, 1) := by decide +kernel
theorem dX11_sum_63 : decode cX11_sum 63 = .ok (.getfield 51, 3) := by decide +kernel
theorem dX11_sum_66 : decode cX11_sum 66 = .ok (.iload 7, 2) := by decide +kernel
theorem dX11_sum_68 : decode cX11_sum 68 = .ok (.iaload, 1) := by decide +kernel
theorem dX11_sum_69 : decode cX11_sum 69 = .ok (.i2l, 1) := by decide +kernel
theorem dX11_sum_70 : decode cX11_sum 70 = .ok (.lmul, 1) := by decide +kernel
theorem dX11_sum_71 : decode cX11_sum 71 = .ok (.ldc2_w 212, 3) := by decide +kernel
theorem dX11_sum_74 : decode cX11_sum 74 = .ok (.lrem, 1) := by decide +kernel
theorem dX11_sum_75 : decode cX11_sum 75 = .ok (.lstore 8, 2) := by decide +kernel
theorem dX11_sum_77 : decode cX11_sum 77 = .ok (.lload 5, 2) := by decide +kernel
theorem dX11_sum_79 : decode cX11_sum 79 = .ok (.iload 7, 2) := by decide +kernel
theorem dX11_sum_81 : decode cX11_sum 81 = .ok (.iconst 2, 1) := by decide +kernel
theorem dX11_sum_82 : decode cX11_sum 82 = .ok (.irem, 1) := by decide +kernel
theorem dX11_sum_83 : decode cX11_sum 83 = .ok (.ifCond .ne 8, 3) := by decide +kernel
theorem dX11_sum_91 : decode cX11_sum 91 = .ok (.ldc2_w 212, 3) := by decide +kernel
theorem dX11_sum_94 : decode cX11_sum 94 = .ok (.lload 8, 2) := by decide +kernel
theorem dX11_sum_96 : decode cX11_sum 96 = .ok (.lsub, 1) := by decide +kernel
theorem dX11_sum_97 : decode cX11_sum 97 = .ok (.ladd, 1) := by decide +kernel
theorem dX11_sum_98 : decode cX11_sum 98 = .ok (.lstore 5, 2) := by decide +kernel
theorem dX11_sum_100 : decode cX11_sum 100 = .ok (.iinc 7 1, 3) := by decide +kernel
theorem dX11_sum_103 : decode cX11_sum 103 = .ok (.goto (-56), 3) := by decide +kernel
theorem dX11_sum_86 : decode cX11_sum 86 = .ok (.lload 8, 2) := by decide +kernel
theorem dX11_sum_88 : decode cX11_sum 88 = .ok (.goto 9, 3) := by decide +kernel
theorem dX11_sum_113 : decode cX11_sum 113 = .ok (.ireturn, 1) := by decide +kernel
theorem dX11_sum_23 : decode cX11_sum 23 = .ok (.ireturn, 1) := by decide +kernel
theorem dX11_sum_40 : decode cX11_sum 40 = .ok (.ireturn, 1) := by decide +kernel
theorem dX11_noUse_0 : decode cX11_noUse 0 = .ok (.aload_n 0, 1) := by decide +kernel
theorem dX11_noUse_1 : decode cX11_noUse 1 = .ok (.iconst 0, 1) := by decide +kernel
theorem dX11_noUse_2 : decode cX11_noUse 2 = .ok (.putfield 75, 3) := by decide +kernel
theorem dX11_noUse_5 : decode cX11_noUse 5 = .ok (.aload_n 0, 1) := by decide +kernel
theorem dX11_noUse_6 : decode cX11_noUse 6 = .ok (.iload_n 1, 1) := by decide +kernel
theorem dX11_noUse_7 : decode cX11_noUse 7 = .ok (.invokevirtual 171, 3) := by decide +kernel
theorem dX11_noUse_10 : decode cX11_noUse 10 = .ok (.ifCond .ne 5, 3) := by decide +kernel
theorem dX11_noUse_15 : decode cX11_noUse 15 = .ok (.aload_n 0, 1) := by decide +kernel
theorem dX11_noUse_16 : decode cX11_noUse 16 = .ok (.iload_n 1, 1) := by decide +kernel
theorem dX11_noUse_17 : decode cX11_noUse 17 = .ok (.invokevirtual 203, 3) := by decide +kernel
theorem w_1681 : Cond.methodLink "QuarterWalksModel" 203 yX11_bitsOf ∈ wAll := wI7 146 (by decide +kernel) (by decide +kernel)
theorem w_56 : Cond.selects yX11_bitsOf.cls yX11_bitsOf yX11_bitsOf ∈ wAll := wIn 56 (by decide +kernel) (by decide +kernel)
theorem mk_X11_bitsOf : mk yX11_bitsOf 1 := ⟨by decide +kernel, w_110⟩
theorem w_1683 : Cond.instanceMethod yX11_bitsOf ∈ wAll := wI7 148 (by decide +kernel) (by decide +kernel)
theorem w_1684 : Cond.code yX11_bitsOf cX11_bitsOf 4 (some .int) ∈ wAll := wI7 149 (by decide +kernel) (by decide +kernel)
theorem dX11_noUse_20 : decode cX11_noUse 20 = .ok (.istore_n 2, 1) := by decide +kernel
theorem dX11_noUse_21 : decode cX11_noUse 21 = .ok (.aload_n 0, 1) := by decide +kernel
theorem dX11_noUse_22 : decode cX11_noUse 22 = .ok (.iload_n 1, 1) := by decide +kernel
theorem dX11_noUse_23 : decode cX11_noUse 23 = .ok (.invokevirtual 222, 3) := by decide +kernel
theorem dX11_noUse_26 : decode cX11_noUse 26 = .ok (.iconst 0, 1) := by decide +kernel
theorem dX11_noUse_27 : decode cX11_noUse 27 = .ok (.istore_n 3, 1) := by decide +kernel
theorem dX11_noUse_13 : decode cX11_noUse 13 = .ok (.iconst (-1), 1) := by decide +kernel
theorem dX11_noUse_28 : decode cX11_noUse 28 = .ok (.iload_n 3, 1) := by decide +kernel
theorem dX11_noUse_29 : decode cX11_noUse 29 = .ok (.bipush 24, 2) := by decide +kernel
theorem dX11_noUse_31 : decode cX11_noUse 31 = .ok (.if_icmp .ge 116, 3) := by decide +kernel
theorem dX11_noUse_34 : decode cX11_noUse 34 = .ok (.iconst 0, 1) := by decide +kernel
theorem dX11_noUse_35 : decode cX11_noUse 35 = .ok (.istore 4, 2) := by decide +kernel
theorem dX11_noUse_37 : decode cX11_noUse 37 = .ok (.iload 4, 2) := by decide +kernel
theorem dX11_noUse_39 : decode cX11_noUse 39 = .ok (.bipush 75, 2) := by decide +kernel
theorem dX11_noUse_41 : decode cX11_noUse 41 = .ok (.if_icmp .ge 93, 3) := by decide +kernel
theorem dX11_noUse_44 : decode cX11_noUse 44 = .ok (.iconst 0, 1) := by decide +kernel
theorem dX11_noUse_45 : decode cX11_noUse 45 = .ok (.istore 5, 2) := by decide +kernel
theorem dX11_noUse_47 : decode cX11_noUse 47 = .ok (.iload 5, 2) := by decide +kernel
theorem dX11_noUse_49 : decode cX11_noUse 49 = .ok (.bipush 75, 2) := by decide +kernel
theorem dX11_noUse_51 : decode cX11_noUse 51 = .ok (.if_icmp .ge 77, 3) := by decide +kernel
theorem dX11_noUse_54 : decode cX11_noUse 54 = .ok (.aload_n 0, 1) := by decide +kernel
theorem dX11_noUse_55 : decode cX11_noUse 55 = .ok (.getfield 29, 3) := by decide +kernel
theorem dX11_noUse_58 : decode cX11_noUse 58 = .ok (.iload 4, 2) := by decide +kernel
theorem dX11_noUse_60 : decode cX11_noUse 60 = .ok (.iload 5, 2) := by decide +kernel
theorem dX11_noUse_62 : decode cX11_noUse 62 = .ok (.invokestatic 206, 3) := by decide +kernel
theorem dX11_noUse_65 : decode cX11_noUse 65 = .ok (.laload, 1) := by decide +kernel
theorem dX11_noUse_66 : decode cX11_noUse 66 = .ok (.lconst 0, 1) := by decide +kernel
theorem dX11_noUse_67 : decode cX11_noUse 67 = .ok (.lcmp, 1) := by decide +kernel
theorem dX11_noUse_68 : decode cX11_noUse 68 = .ok (.ifCond .ne 6, 3) := by decide +kernel
theorem dX11_noUse_74 : decode cX11_noUse 74 = .ok (.iconst 0, 1) := by decide +kernel
theorem dX11_noUse_75 : decode cX11_noUse 75 = .ok (.istore 6, 2) := by decide +kernel
theorem dX11_noUse_71 : decode cX11_noUse 71 = .ok (.goto 51, 3) := by decide +kernel
theorem dX11_noUse_122 : decode cX11_noUse 122 = .ok (.iinc 5 1, 3) := by decide +kernel
theorem dX11_noUse_125 : decode cX11_noUse 125 = .ok (.goto (-78), 3) := by decide +kernel
theorem dX11_noUse_128 : decode cX11_noUse 128 = .ok (.iinc 4 1, 3) := by decide +kernel
theorem dX11_noUse_131 : decode cX11_noUse 131 = .ok (.goto (-94), 3) := by decide +kernel
theorem dX11_noUse_134 : decode cX11_noUse 134 = .ok (.aload_n 0, 1) := by decide +kernel
theorem dX11_noUse_135 : decode cX11_noUse 135 = .ok (.iload_n 1, 1) := by decide +kernel
theorem dX11_noUse_136 : decode cX11_noUse 136 = .ok (.iconst 0, 1) := by decide +kernel
theorem dX11_noUse_137 : decode cX11_noUse 137 = .ok (.iconst 4, 1) := by decide +kernel
theorem dX11_noUse_138 : decode cX11_noUse 138 = .ok (.invokevirtual 225, 3) := by decide +kernel
theorem dX11_noUse_141 : decode cX11_noUse 141 = .ok (.iinc 3 1, 3) := by decide +kernel
theorem dX11_noUse_144 : decode cX11_noUse 144 = .ok (.goto (-116), 3) := by decide +kernel
theorem dX11_noUse_147 : decode cX11_noUse 147 = .ok (.iload_n 2, 1) := by decide +kernel
theorem dX11_noUse_77 : decode cX11_noUse 77 = .ok (.iload 6, 2) := by decide +kernel
theorem dX11_noUse_79 : decode cX11_noUse 79 = .ok (.bipush 8, 2) := by decide +kernel
theorem dX11_noUse_81 : decode cX11_noUse 81 = .ok (.if_icmp .ge 41, 3) := by decide +kernel
theorem dX11_noUse_84 : decode cX11_noUse 84 = .ok (.iconst 0, 1) := by decide +kernel
theorem dX11_noUse_85 : decode cX11_noUse 85 = .ok (.iload 4, 2) := by decide +kernel
theorem dX11_noUse_87 : decode cX11_noUse 87 = .ok (.iload 6, 2) := by decide +kernel
theorem dX11_noUse_89 : decode cX11_noUse 89 = .ok (.invokestatic 191, 3) := by decide +kernel
theorem dX11_noUse_92 : decode cX11_noUse 92 = .ok (.iadd, 1) := by decide +kernel
theorem dX11_noUse_93 : decode cX11_noUse 93 = .ok (.iload 5, 2) := by decide +kernel
theorem dX11_noUse_95 : decode cX11_noUse 95 = .ok (.iload 6, 2) := by decide +kernel
theorem dX11_noUse_97 : decode cX11_noUse 97 = .ok (.invokestatic 194, 3) := by decide +kernel
theorem dX11_noUse_100 : decode cX11_noUse 100 = .ok (.iadd, 1) := by decide +kernel
theorem dX11_noUse_101 : decode cX11_noUse 101 = .ok (.invokestatic 214, 3) := by decide +kernel
theorem dX11_noUse_104 : decode cX11_noUse 104 = .ok (.ifCond .eq 12, 3) := by decide +kernel
theorem dX11_noUse_116 : decode cX11_noUse 116 = .ok (.iinc 6 1, 3) := by decide +kernel
theorem dX11_noUse_119 : decode cX11_noUse 119 = .ok (.goto (-42), 3) := by decide +kernel
theorem dX11_noUse_107 : decode cX11_noUse 107 = .ok (.iload_n 2, 1) := by decide +kernel
theorem dX11_noUse_108 : decode cX11_noUse 108 = .ok (.iconst 1, 1) := by decide +kernel
theorem dX11_noUse_109 : decode cX11_noUse 109 = .ok (.iload 6, 2) := by decide +kernel
theorem dX11_noUse_111 : decode cX11_noUse 111 = .ok (.ishl, 1) := by decide +kernel
theorem dX11_noUse_112 : decode cX11_noUse 112 = .ok (.iconst (-1), 1) := by decide +kernel
theorem dX11_noUse_113 : decode cX11_noUse 113 = .ok (.ixor, 1) := by decide +kernel
theorem dX11_noUse_114 : decode cX11_noUse 114 = .ok (.iand, 1) := by decide +kernel
theorem dX11_noUse_115 : decode cX11_noUse 115 = .ok (.istore_n 2, 1) := by decide +kernel
theorem dX11_noUse_148 : decode cX11_noUse 148 = .ok (.ireturn, 1) := by decide +kernel
theorem dX11_noUse_14 : decode cX11_noUse 14 = .ok (.ireturn, 1) := by decide +kernel
theorem dX11_isAsMany_0 : decode cX11_isAsMany 0 = .ok (.aload_n 0, 1) := by decide +kernel
theorem dX11_isAsMany_1 : decode cX11_isAsMany 1 = .ok (.iload_n 1, 1) := by decide +kernel
theorem dX11_isAsMany_2 : decode cX11_isAsMany 2 = .ok (.iconst 0, 1) := by decide +kernel
theorem dX11_isAsMany_3 : decode cX11_isAsMany 3 = .ok (.iconst 0, 1) := by decide +kernel
theorem dX11_isAsMany_4 : decode cX11_isAsMany 4 = .ok (.bipush 12, 2) := by decide +kernel
theorem dX11_isAsMany_6 : decode cX11_isAsMany 6 = .ok (.aload_n 0, 1) := by decide +kernel
theorem dX11_isAsMany_7 : decode cX11_isAsMany 7 = .ok (.getfield 36, 3) := by decide +kernel
theorem dX11_isAsMany_10 : decode cX11_isAsMany 10 = .ok (.invokevirtual 272, 3) := by decide +kernel
theorem dX11_isAsMany_13 : decode cX11_isAsMany 13 = .ok (.aload_n 0, 1) := by decide +kernel
theorem dX11_isAsMany_14 : decode cX11_isAsMany 14 = .ok (.iload_n 1, 1) := by decide +kernel
theorem dX11_isAsMany_15 : decode cX11_isAsMany 15 = .ok (.iconst 0, 1) := by decide +kernel
theorem dX11_isAsMany_16 : decode cX11_isAsMany 16 = .ok (.iload_n 2, 1) := by decide +kernel
theorem dX11_isAsMany_17 : decode cX11_isAsMany 17 = .ok (.bipush 12, 2) := by decide +kernel
theorem dX11_isAsMany_19 : decode cX11_isAsMany 19 = .ok (.aload_n 0, 1) := by decide +kernel
theorem dX11_isAsMany_20 : decode cX11_isAsMany 20 = .ok (.getfield 39, 3) := by decide +kernel
theorem dX11_isAsMany_23 : decode cX11_isAsMany 23 = .ok (.invokevirtual 272, 3) := by decide +kernel
theorem dX11_isAsMany_26 : decode cX11_isAsMany 26 = .ok (.iconst 0, 1) := by decide +kernel
theorem dX11_isAsMany_27 : decode cX11_isAsMany 27 = .ok (.istore_n 3, 1) := by decide +kernel
theorem dX11_isAsMany_28 : decode cX11_isAsMany 28 = .ok (.iload_n 3, 1) := by decide +kernel
theorem dX11_isAsMany_29 : decode cX11_isAsMany 29 = .ok (.bipush 12, 2) := by decide +kernel
theorem dX11_isAsMany_31 : decode cX11_isAsMany 31 = .ok (.if_icmp .gt 26, 3) := by decide +kernel
theorem dX11_isAsMany_34 : decode cX11_isAsMany 34 = .ok (.aload_n 0, 1) := by decide +kernel
theorem dX11_isAsMany_35 : decode cX11_isAsMany 35 = .ok (.getfield 36, 3) := by decide +kernel
theorem dX11_isAsMany_38 : decode cX11_isAsMany 38 = .ok (.iload_n 3, 1) := by decide +kernel
theorem dX11_isAsMany_39 : decode cX11_isAsMany 39 = .ok (.iaload, 1) := by decide +kernel
theorem dX11_isAsMany_40 : decode cX11_isAsMany 40 = .ok (.aload_n 0, 1) := by decide +kernel
theorem dX11_isAsMany_41 : decode cX11_isAsMany 41 = .ok (.getfield 39, 3) := by decide +kernel
theorem dX11_isAsMany_44 : decode cX11_isAsMany 44 = .ok (.iload_n 3, 1) := by decide +kernel
theorem dX11_isAsMany_45 : decode cX11_isAsMany 45 = .ok (.iaload, 1) := by decide +kernel
theorem dX11_isAsMany_46 : decode cX11_isAsMany 46 = .ok (.if_icmp .eq 5, 3) := by decide +kernel
theorem dX11_isAsMany_51 : decode cX11_isAsMany 51 = .ok (.iinc 3 1, 3) := by decide +kernel
theorem dX11_isAsMany_54 : decode cX11_isAsMany 54 = .ok (.goto (-26), 3) := by decide +kernel
theorem dX11_isAsMany_49 : decode cX11_isAsMany 49 = .ok (.iconst 0, 1) := by decide +kernel
theorem dX11_isAsMany_57 : decode cX11_isAsMany 57 = .ok (.iconst 1, 1) := by decide +kernel
theorem dX11_isAsMany_58 : decode cX11_isAsMany 58 = .ok (.ireturn, 1) := by decide +kernel
theorem dX11_isAsMany_50 : decode cX11_isAsMany 50 = .ok (.ireturn, 1) := by decide +kernel
theorem dX11_enough_0 : decode cX11_enough 0 = .ok (.aload_n 0, 1) := by decide +kernel
theorem dX11_enough_1 : decode cX11_enough 1 = .ok (.iconst 0, 1) := by decide +kernel
theorem dX11_enough_2 : decode cX11_enough 2 = .ok (.putfield 75, 3) := by decide +kernel
theorem dX11_enough_5 : decode cX11_enough 5 = .ok (.aload_n 0, 1) := by decide +kernel
theorem dX11_enough_6 : decode cX11_enough 6 = .ok (.iload_n 1, 1) := by decide +kernel
theorem dX11_enough_7 : decode cX11_enough 7 = .ok (.invokevirtual 171, 3) := by decide +kernel
theorem dX11_enough_10 : decode cX11_enough 10 = .ok (.ifCond .eq 35, 3) := by decide +kernel
theorem dX11_enough_45 : decode cX11_enough 45 = .ok (.iconst (-1), 1) := by decide +kernel
theorem dX11_enough_13 : decode cX11_enough 13 = .ok (.aload_n 0, 1) := by decide +kernel
theorem dX11_enough_14 : decode cX11_enough 14 = .ok (.iload_n 1, 1) := by decide +kernel
theorem dX11_enough_15 : decode cX11_enough 15 = .ok (.iconst 1, 1) := by decide +kernel
theorem dX11_enough_16 : decode cX11_enough 16 = .ok (.invokevirtual 361, 3) := by decide +kernel
theorem w_1916 : Cond.methodLink "QuarterWalksModel" 361 yX11_isAsMany ∈ wAll := wI8 141 (by decide +kernel) (by decide +kernel)
theorem w_75 : Cond.selects yX11_isAsMany.cls yX11_isAsMany yX11_isAsMany ∈ wAll := wIn 75 (by decide +kernel) (by decide +kernel)
theorem mk_X11_isAsMany : mk yX11_isAsMany 2 := ⟨by decide +kernel, w_110⟩
theorem w_1918 : Cond.instanceMethod yX11_isAsMany ∈ wAll := wI8 143 (by decide +kernel) (by decide +kernel)
theorem w_1919 : Cond.code yX11_isAsMany cX11_isAsMany 4 (some .boolean) ∈ wAll := wI8 144 (by decide +kernel) (by decide +kernel)
theorem dX11_enough_19 : decode cX11_enough 19 = .ok (.ifCond .eq 7, 3) := by decide +kernel
theorem dX11_enough_26 : decode cX11_enough 26 = .ok (.iconst 0, 1) := by decide +kernel
theorem dX11_enough_27 : decode cX11_enough 27 = .ok (.aload_n 0, 1) := by decide +kernel
theorem dX11_enough_28 : decode cX11_enough 28 = .ok (.iload_n 1, 1) := by decide +kernel
theorem dX11_enough_29 : decode cX11_enough 29 = .ok (.iconst 3, 1) := by decide +kernel
theorem dX11_enough_30 : decode cX11_enough 30 = .ok (.invokevirtual 361, 3) := by decide +kernel
theorem dX11_enough_33 : decode cX11_enough 33 = .ok (.ifCond .eq 7, 3) := by decide +kernel
theorem dX11_enough_40 : decode cX11_enough 40 = .ok (.iconst 0, 1) := by decide +kernel
theorem dX11_enough_41 : decode cX11_enough 41 = .ok (.iadd, 1) := by decide +kernel
theorem dX11_enough_42 : decode cX11_enough 42 = .ok (.goto 4, 3) := by decide +kernel
theorem dX11_enough_36 : decode cX11_enough 36 = .ok (.iconst 2, 1) := by decide +kernel
theorem dX11_enough_37 : decode cX11_enough 37 = .ok (.goto 4, 3) := by decide +kernel
theorem dX11_enough_22 : decode cX11_enough 22 = .ok (.iconst 1, 1) := by decide +kernel
theorem dX11_enough_23 : decode cX11_enough 23 = .ok (.goto 4, 3) := by decide +kernel
theorem dX11_enough_46 : decode cX11_enough 46 = .ok (.ireturn, 1) := by decide +kernel
theorem dX11_areAlike_0 : decode cX11_areAlike 0 = .ok (.aload_n 0, 1) := by decide +kernel
theorem dX11_areAlike_1 : decode cX11_areAlike 1 = .ok (.iload_n 2, 1) := by decide +kernel
theorem dX11_areAlike_2 : decode cX11_areAlike 2 = .ok (.iconst 0, 1) := by decide +kernel
theorem dX11_areAlike_3 : decode cX11_areAlike 3 = .ok (.iconst 0, 1) := by decide +kernel
theorem dX11_areAlike_4 : decode cX11_areAlike 4 = .ok (.bipush 20, 2) := by decide +kernel
theorem dX11_areAlike_6 : decode cX11_areAlike 6 = .ok (.aload_n 0, 1) := by decide +kernel
theorem dX11_areAlike_7 : decode cX11_areAlike 7 = .ok (.getfield 39, 3) := by decide +kernel
theorem dX11_areAlike_10 : decode cX11_areAlike 10 = .ok (.invokevirtual 272, 3) := by decide +kernel
theorem dX11_areAlike_13 : decode cX11_areAlike 13 = .ok (.iconst 0, 1) := by decide +kernel
theorem dX11_areAlike_14 : decode cX11_areAlike 14 = .ok (.istore_n 3, 1) := by decide +kernel
theorem dX11_areAlike_15 : decode cX11_areAlike 15 = .ok (.iload_n 3, 1) := by decide +kernel
theorem dX11_areAlike_16 : decode cX11_areAlike 16 = .ok (.bipush 20, 2) := by decide +kernel
theorem dX11_areAlike_18 : decode cX11_areAlike 18 = .ok (.if_icmp .gt 26, 3) := by decide +kernel
theorem dX11_areAlike_21 : decode cX11_areAlike 21 = .ok (.aload_n 0, 1) := by decide +kernel
theorem dX11_areAlike_22 : decode cX11_areAlike 22 = .ok (.getfield 36, 3) := by decide +kernel
theorem dX11_areAlike_25 : decode cX11_areAlike 25 = .ok (.iload_n 3, 1) := by decide +kernel
theorem dX11_areAlike_26 : decode cX11_areAlike 26 = .ok (.iaload, 1) := by decide +kernel
theorem dX11_areAlike_27 : decode cX11_areAlike 27 = .ok (.aload_n 0, 1) := by decide +kernel
theorem dX11_areAlike_28 : decode cX11_areAlike 28 = .ok (.getfield 39, 3) := by decide +kernel
theorem dX11_areAlike_31 : decode cX11_areAlike 31 = .ok (.iload_n 3, 1) := by decide +kernel
theorem dX11_areAlike_32 : decode cX11_areAlike 32 = .ok (.iaload, 1) := by decide +kernel
theorem dX11_areAlike_33 : decode cX11_areAlike 33 = .ok (.if_icmp .eq 5, 3) := by decide +kernel
theorem dX11_areAlike_38 : decode cX11_areAlike 38 = .ok (.iinc 3 1, 3) := by decide +kernel
theorem dX11_areAlike_41 : decode cX11_areAlike 41 = .ok (.goto (-26), 3) := by decide +kernel
theorem dX11_areAlike_36 : decode cX11_areAlike 36 = .ok (.iconst 0, 1) := by decide +kernel
theorem dX11_areAlike_44 : decode cX11_areAlike 44 = .ok (.iconst 1, 1) := by decide +kernel
theorem dX11_areAlike_45 : decode cX11_areAlike 45 = .ok (.ireturn, 1) := by decide +kernel
theorem dX11_areAlike_37 : decode cX11_areAlike 37 = .ok (.ireturn, 1) := by decide +kernel
theorem dX11_less_0 : decode cX11_less 0 = .ok (.iconst 0, 1) := by decide +kernel
theorem dX11_less_1 : decode cX11_less 1 = .ok (.istore 5, 2) := by decide +kernel
theorem dX11_less_3 : decode cX11_less 3 = .ok (.iload 5, 2) := by decide +kernel
theorem dX11_less_5 : decode cX11_less 5 = .ok (.aload_n 0, 1) := by decide +kernel
theorem dX11_less_6 : decode cX11_less 6 = .ok (.getfield 367, 3) := by decide +kernel
theorem w_1461 : Cond.fieldLink "QuarterWalksModel" 367 "QuarterWalksModel" "rows" "I" ∈ wAll := wI6 166 (by decide +kernel) (by decide +kernel)
theorem fl_X11_367 : fl RX11 367 12 28 := ⟨RX11, TX11, 32, rfl, inA_X11, by decide, w_1461⟩
theorem dX11_less_9 : decode cX11_less 9 = .ok (.if_icmp .ge 56, 3) := by decide +kernel
theorem dX11_less_65 : decode cX11_less 65 = .ok (.iconst 0, 1) := by decide +kernel
theorem dX11_less_66 : decode cX11_less 66 = .ok (.istore 5, 2) := by decide +kernel
theorem dX11_less_12 : decode cX11_less 12 = .ok (.aload_n 0, 1) := by decide +kernel
theorem dX11_less_13 : decode cX11_less 13 = .ok (.getfield 57, 3) := by decide +kernel
theorem w_1456 : Cond.fieldLink "QuarterWalksModel" 57 "QuarterWalksModel" "reduced" "[J" ∈ wAll := wI6 161 (by decide +kernel) (by decide +kernel)
theorem fl_X11_57 : fl RX11 57 12 23 := ⟨RX11, TX11, 32, rfl, inA_X11, by decide, w_1456⟩
theorem dX11_less_16 : decode cX11_less 16 = .ok (.bipush 61, 2) := by decide +kernel
theorem dX11_less_18 : decode cX11_less 18 = .ok (.iload_n 1, 1) := by decide +kernel
theorem dX11_less_19 : decode cX11_less 19 = .ok (.imul, 1) := by decide +kernel
theorem dX11_less_20 : decode cX11_less 20 = .ok (.iload 5, 2) := by decide +kernel
theorem dX11_less_22 : decode cX11_less 22 = .ok (.iadd, 1) := by decide +kernel
theorem dX11_less_23 : decode cX11_less 23 = .ok (.aload_n 0, 1) := by decide +kernel
theorem dX11_less_24 : decode cX11_less 24 = .ok (.getfield 57, 3) := by decide +kernel
theorem dX11_less_27 : decode cX11_less 27 = .ok (.bipush 61, 2) := by decide +kernel
theorem dX11_less_29 : decode cX11_less 29 = .ok (.iload_n 1, 1) := by decide +kernel
theorem dX11_less_30 : decode cX11_less 30 = .ok (.imul, 1) := by decide +kernel
theorem dX11_less_31 : decode cX11_less 31 = .ok (.iload 5, 2) := by decide +kernel
theorem dX11_less_33 : decode cX11_less 33 = .ok (.iadd, 1) := by decide +kernel
theorem dX11_less_34 : decode cX11_less 34 = .ok (.laload, 1) := by decide +kernel
theorem dX11_less_35 : decode cX11_less 35 = .ok (.ldc2_w 212, 3) := by decide +kernel
theorem dX11_less_38 : decode cX11_less 38 = .ok (.lload_n 3, 1) := by decide +kernel
theorem dX11_less_39 : decode cX11_less 39 = .ok (.lsub, 1) := by decide +kernel
theorem dX11_less_40 : decode cX11_less 40 = .ok (.aload_n 0, 1) := by decide +kernel
theorem dX11_less_41 : decode cX11_less 41 = .ok (.getfield 57, 3) := by decide +kernel
theorem dX11_less_44 : decode cX11_less 44 = .ok (.bipush 61, 2) := by decide +kernel
theorem dX11_less_46 : decode cX11_less 46 = .ok (.iload_n 2, 1) := by decide +kernel
theorem dX11_less_47 : decode cX11_less 47 = .ok (.imul, 1) := by decide +kernel
theorem dX11_less_48 : decode cX11_less 48 = .ok (.iload 5, 2) := by decide +kernel
theorem dX11_less_50 : decode cX11_less 50 = .ok (.iadd, 1) := by decide +kernel
theorem dX11_less_51 : decode cX11_less 51 = .ok (.laload, 1) := by decide +kernel
theorem dX11_less_52 : decode cX11_less 52 = .ok (.lmul, 1) := by decide +kernel
theorem dX11_less_53 : decode cX11_less 53 = .ok (.ladd, 1) := by decide +kernel
theorem dX11_less_54 : decode cX11_less 54 = .ok (.ldc2_w 212, 3) := by decide +kernel
theorem dX11_less_57 : decode cX11_less 57 = .ok (.lrem, 1) := by decide +kernel
theorem dX11_less_58 : decode cX11_less 58 = .ok (.lastore, 1) := by decide +kernel
theorem dX11_less_59 : decode cX11_less 59 = .ok (.iinc 5 1, 3) := by decide +kernel
theorem dX11_less_62 : decode cX11_less 62 = .ok (.goto (-59), 3) := by decide +kernel
theorem dX11_less_68 : decode cX11_less 68 = .ok (.iload 5, 2) := by decide +kernel
theorem dX11_less_70 : decode cX11_less 70 = .ok (.aload_n 0, 1) := by decide +kernel
theorem dX11_less_71 : decode cX11_less 71 = .ok (.getfield 370, 3) := by decide +kernel
theorem w_1460 : Cond.fieldLink "QuarterWalksModel" 370 "QuarterWalksModel" "columns" "I" ∈ wAll := wI6 165 (by decide +kernel) (by decide +kernel)
theorem fl_X11_370 : fl RX11 370 12 27 := ⟨RX11, TX11, 32, rfl, inA_X11, by decide, w_1460⟩
theorem dX11_less_74 : decode cX11_less 74 = .ok (.if_icmp .ge 56, 3) := by decide +kernel
theorem dX11_less_77 : decode cX11_less 77 = .ok (.aload_n 0, 1) := by decide +kernel
theorem dX11_less_78 : decode cX11_less 78 = .ok (.getfield 60, 3) := by decide +kernel
theorem w_1457 : Cond.fieldLink "QuarterWalksModel" 60 "QuarterWalksModel" "made" "[J" ∈ wAll := wI6 162 (by decide +kernel) (by decide +kernel)
theorem fl_X11_60 : fl RX11 60 12 24 := ⟨RX11, TX11, 32, rfl, inA_X11, by decide, w_1457⟩
theorem dX11_less_81 : decode cX11_less 81 = .ok (.bipush 28, 2) := by decide +kernel
theorem dX11_less_83 : decode cX11_less 83 = .ok (.iload_n 1, 1) := by decide +kernel
theorem dX11_less_84 : decode cX11_less 84 = .ok (.imul, 1) := by decide +kernel
theorem dX11_less_85 : decode cX11_less 85 = .ok (.iload 5, 2) := by decide +kernel
theorem dX11_less_87 : decode cX11_less 87 = .ok (.iadd, 1) := by decide +kernel
theorem dX11_less_88 : decode cX11_less 88 = .ok (.aload_n 0, 1) := by decide +kernel
theorem dX11_less_89 : decode cX11_less 89 = .ok (.getfield 60, 3) := by decide +kernel
theorem dX11_less_92 : decode cX11_less 92 = .ok (.bipush 28, 2) := by decide +kernel
theorem dX11_less_94 : decode cX11_less 94 = .ok (.iload_n 1, 1) := by decide +kernel
theorem dX11_less_95 : decode cX11_less 95 = .ok (.imul, 1) := by decide +kernel
theorem dX11_less_96 : decode cX11_less 96 = .ok (.iload 5, 2) := by decide +kernel
theorem dX11_less_98 : decode cX11_less 98 = .ok (.iadd, 1) := by decide +kernel
theorem dX11_less_99 : decode cX11_less 99 = .ok (.laload, 1) := by decide +kernel
theorem dX11_less_100 : decode cX11_less 100 = .ok (.ldc2_w 212, 3) := by decide +kernel
theorem dX11_less_103 : decode cX11_less 103 = .ok (.lload_n 3, 1) := by decide +kernel
theorem dX11_less_104 : decode cX11_less 104 = .ok (.lsub, 1) := by decide +kernel
theorem dX11_less_105 : decode cX11_less 105 = .ok (.aload_n 0, 1) := by decide +kernel
theorem dX11_less_106 : decode cX11_less 106 = .ok (.getfield 60, 3) := by decide +kernel
theorem dX11_less_109 : decode cX11_less 109 = .ok (.bipush 28, 2) := by decide +kernel
theorem dX11_less_111 : decode cX11_less 111 = .ok (.iload_n 2, 1) := by decide +kernel
theorem dX11_less_112 : decode cX11_less 112 = .ok (.imul, 1) := by decide +kernel
theorem dX11_less_113 : decode cX11_less 113 = .ok (.iload 5, 2) := by decide +kernel
theorem dX11_less_115 : decode cX11_less 115 = .ok (.iadd, 1) := by decide +kernel
theorem dX11_less_116 : decode cX11_less 116 = .ok (.laload, 1) := by decide +kernel
theorem dX11_less_117 : decode cX11_less 117 = .ok (.lmul, 1) := by decide +kernel
theorem dX11_less_118 : decode cX11_less 118 = .ok (.ladd, 1) := by decide +kernel
theorem dX11_less_119 : decode cX11_less 119 = .ok (.ldc2_w 212, 3) := by decide +kernel
theorem dX11_less_122 : decode cX11_less 122 = .ok (.lrem, 1) := by decide +kernel
theorem dX11_less_123 : decode cX11_less 123 = .ok (.lastore, 1) := by decide +kernel
theorem dX11_less_124 : decode cX11_less 124 = .ok (.iinc 5 1, 3) := by decide +kernel
theorem dX11_less_127 : decode cX11_less 127 = .ok (.goto (-59), 3) := by decide +kernel
theorem dX11_less_130 : decode cX11_less 130 = .ok (.return_, 1) := by decide +kernel
theorem dX11_leadOf_0 : decode cX11_leadOf 0 = .ok (.iconst 0, 1) := by decide +kernel
theorem dX11_leadOf_1 : decode cX11_leadOf 1 = .ok (.istore_n 2, 1) := by decide +kernel
theorem dX11_leadOf_2 : decode cX11_leadOf 2 = .ok (.iload_n 2, 1) := by decide +kernel
theorem dX11_leadOf_3 : decode cX11_leadOf 3 = .ok (.aload_n 0, 1) := by decide +kernel
theorem dX11_leadOf_4 : decode cX11_leadOf 4 = .ok (.getfield 367, 3) := by decide +kernel
theorem dX11_leadOf_7 : decode cX11_leadOf 7 = .ok (.if_icmp .ge 27, 3) := by decide +kernel
theorem dX11_leadOf_34 : decode cX11_leadOf 34 = .ok (.iconst (-1), 1) := by decide +kernel
theorem dX11_leadOf_10 : decode cX11_leadOf 10 = .ok (.aload_n 0, 1) := by decide +kernel
theorem dX11_leadOf_11 : decode cX11_leadOf 11 = .ok (.getfield 57, 3) := by decide +kernel
theorem dX11_leadOf_14 : decode cX11_leadOf 14 = .ok (.bipush 61, 2) := by decide +kernel
theorem dX11_leadOf_16 : decode cX11_leadOf 16 = .ok (.iload_n 1, 1) := by decide +kernel
theorem dX11_leadOf_17 : decode cX11_leadOf 17 = .ok (.imul, 1) := by decide +kernel
theorem dX11_leadOf_18 : decode cX11_leadOf 18 = .ok (.iload_n 2, 1) := by decide +kernel
theorem dX11_leadOf_19 : decode cX11_leadOf 19 = .ok (.iadd, 1) := by decide +kernel
theorem dX11_leadOf_20 : decode cX11_leadOf 20 = .ok (.laload, 1) := by decide +kernel
theorem dX11_leadOf_21 : decode cX11_leadOf 21 = .ok (.lconst 0, 1) := by decide +kernel
theorem dX11_leadOf_22 : decode cX11_leadOf 22 = .ok (.lcmp, 1) := by decide +kernel
theorem dX11_leadOf_23 : decode cX11_leadOf 23 = .ok (.ifCond .eq 5, 3) := by decide +kernel
theorem dX11_leadOf_28 : decode cX11_leadOf 28 = .ok (.iinc 2 1, 3) := by decide +kernel
theorem dX11_leadOf_31 : decode cX11_leadOf 31 = .ok (.goto (-29), 3) := by decide +kernel
theorem dX11_leadOf_26 : decode cX11_leadOf 26 = .ok (.iload_n 2, 1) := by decide +kernel
theorem dX11_leadOf_35 : decode cX11_leadOf 35 = .ok (.ireturn, 1) := by decide +kernel
theorem dX11_leadOf_27 : decode cX11_leadOf 27 = .ok (.ireturn, 1) := by decide +kernel
theorem dX11_hangs_0 : decode cX11_hangs 0 = .ok (.iconst 0, 1) := by decide +kernel
theorem dX11_hangs_1 : decode cX11_hangs 1 = .ok (.istore_n 1, 1) := by decide +kernel
theorem dX11_hangs_2 : decode cX11_hangs 2 = .ok (.iload_n 1, 1) := by decide +kernel
theorem dX11_hangs_3 : decode cX11_hangs 3 = .ok (.aload_n 0, 1) := by decide +kernel
theorem dX11_hangs_4 : decode cX11_hangs 4 = .ok (.getfield 370, 3) := by decide +kernel
theorem dX11_hangs_7 : decode cX11_hangs 7 = .ok (.if_icmp .ge 210, 3) := by decide +kernel
theorem dX11_hangs_217 : decode cX11_hangs 217 = .ok (.iconst 0, 1) := by decide +kernel
theorem dX11_hangs_10 : decode cX11_hangs 10 = .ok (.iconst 0, 1) := by decide +kernel
theorem dX11_hangs_11 : decode cX11_hangs 11 = .ok (.istore_n 2, 1) := by decide +kernel
theorem dX11_hangs_12 : decode cX11_hangs 12 = .ok (.iload_n 2, 1) := by decide +kernel
theorem dX11_hangs_13 : decode cX11_hangs 13 = .ok (.aload_n 0, 1) := by decide +kernel
theorem dX11_hangs_14 : decode cX11_hangs 14 = .ok (.getfield 367, 3) := by decide +kernel
theorem dX11_hangs_17 : decode cX11_hangs 17 = .ok (.if_icmp .ge 31, 3) := by decide +kernel
theorem dX11_hangs_48 : decode cX11_hangs 48 = .ok (.iconst 0, 1) := by decide +kernel
theorem dX11_hangs_49 : decode cX11_hangs 49 = .ok (.istore_n 2, 1) := by decide +kernel
theorem dX11_hangs_20 : decode cX11_hangs 20 = .ok (.aload_n 0, 1) := by decide +kernel
theorem dX11_hangs_21 : decode cX11_hangs 21 = .ok (.getfield 57, 3) := by decide +kernel
theorem dX11_hangs_24 : decode cX11_hangs 24 = .ok (.bipush 61, 2) := by decide +kernel
theorem dX11_hangs_26 : decode cX11_hangs 26 = .ok (.iload_n 1, 1) := by decide +kernel
theorem dX11_hangs_27 : decode cX11_hangs 27 = .ok (.imul, 1) := by decide +kernel
theorem dX11_hangs_28 : decode cX11_hangs 28 = .ok (.iload_n 2, 1) := by decide +kernel
theorem dX11_hangs_29 : decode cX11_hangs 29 = .ok (.iadd, 1) := by decide +kernel
theorem dX11_hangs_30 : decode cX11_hangs 30 = .ok (.aload_n 0, 1) := by decide +kernel
theorem dX11_hangs_31 : decode cX11_hangs 31 = .ok (.getfield 54, 3) := by decide +kernel
theorem w_1455 : Cond.fieldLink "QuarterWalksModel" 54 "QuarterWalksModel" "column" "[J" ∈ wAll := wI6 160 (by decide +kernel) (by decide +kernel)
theorem fl_X11_54 : fl RX11 54 12 22 := ⟨RX11, TX11, 32, rfl, inA_X11, by decide, w_1455⟩
theorem dX11_hangs_34 : decode cX11_hangs 34 = .ok (.bipush 61, 2) := by decide +kernel
theorem dX11_hangs_36 : decode cX11_hangs 36 = .ok (.iload_n 1, 1) := by decide +kernel
theorem dX11_hangs_37 : decode cX11_hangs 37 = .ok (.imul, 1) := by decide +kernel
theorem dX11_hangs_38 : decode cX11_hangs 38 = .ok (.iload_n 2, 1) := by decide +kernel
theorem dX11_hangs_39 : decode cX11_hangs 39 = .ok (.iadd, 1) := by decide +kernel
theorem dX11_hangs_40 : decode cX11_hangs 40 = .ok (.laload, 1) := by decide +kernel
theorem dX11_hangs_41 : decode cX11_hangs 41 = .ok (.lastore, 1) := by decide +kernel
theorem dX11_hangs_42 : decode cX11_hangs 42 = .ok (.iinc 2 1, 3) := by decide +kernel
theorem dX11_hangs_45 : decode cX11_hangs 45 = .ok (.goto (-33), 3) := by decide +kernel
theorem dX11_hangs_50 : decode cX11_hangs 50 = .ok (.iload_n 2, 1) := by decide +kernel
theorem dX11_hangs_51 : decode cX11_hangs 51 = .ok (.aload_n 0, 1) := by decide +kernel
theorem dX11_hangs_52 : decode cX11_hangs 52 = .ok (.getfield 370, 3) := by decide +kernel
theorem dX11_hangs_55 : decode cX11_hangs 55 = .ok (.if_icmp .ge 30, 3) := by decide +kernel
theorem dX11_hangs_85 : decode cX11_hangs 85 = .ok (.iconst 0, 1) := by decide +kernel
theorem dX11_hangs_86 : decode cX11_hangs 86 = .ok (.istore_n 2, 1) := by decide +kernel
theorem dX11_hangs_58 : decode cX11_hangs 58 = .ok (.aload_n 0, 1) := by decide +kernel
theorem dX11_hangs_59 : decode cX11_hangs 59 = .ok (.getfield 60, 3) := by decide +kernel
theorem dX11_hangs_62 : decode cX11_hangs 62 = .ok (.bipush 28, 2) := by decide +kernel
theorem dX11_hangs_64 : decode cX11_hangs 64 = .ok (.iload_n 1, 1) := by decide +kernel
theorem dX11_hangs_65 : decode cX11_hangs 65 = .ok (.imul, 1) := by decide +kernel
theorem dX11_hangs_66 : decode cX11_hangs 66 = .ok (.iload_n 2, 1) := by decide +kernel
theorem dX11_hangs_67 : decode cX11_hangs 67 = .ok (.iadd, 1) := by decide +kernel
theorem dX11_hangs_68 : decode cX11_hangs 68 = .ok (.iload_n 2, 1) := by decide +kernel
theorem dX11_hangs_69 : decode cX11_hangs 69 = .ok (.iload_n 1, 1) := by decide +kernel
theorem dX11_hangs_70 : decode cX11_hangs 70 = .ok (.if_icmp .ne 7, 3) := by decide +kernel
theorem dX11_hangs_73 : decode cX11_hangs 73 = .ok (.lconst 1, 1) := by decide +kernel
theorem dX11_hangs_74 : decode cX11_hangs 74 = .ok (.goto 4, 3) := by decide +kernel
theorem dX11_hangs_78 : decode cX11_hangs 78 = .ok (.lastore, 1) := by decide +kernel
theorem dX11_hangs_79 : decode cX11_hangs 79 = .ok (.iinc 2 1, 3) := by decide +kernel
theorem dX11_hangs_82 : decode cX11_hangs 82 = .ok (.goto (-32), 3) := by decide +kernel
theorem dX11_hangs_77 : decode cX11_hangs 77 = .ok (.lconst 0, 1) := by decide +kernel
theorem dX11_hangs_87 : decode cX11_hangs 87 = .ok (.iload_n 2, 1) := by decide +kernel
theorem dX11_hangs_88 : decode cX11_hangs 88 = .ok (.iload_n 1, 1) := by decide +kernel
theorem dX11_hangs_89 : decode cX11_hangs 89 = .ok (.if_icmp .ge 63, 3) := by decide +kernel
theorem dX11_hangs_152 : decode cX11_hangs 152 = .ok (.aload_n 0, 1) := by decide +kernel
theorem dX11_hangs_153 : decode cX11_hangs 153 = .ok (.getfield 66, 3) := by decide +kernel
theorem w_1459 : Cond.fieldLink "QuarterWalksModel" 66 "QuarterWalksModel" "leads" "[I" ∈ wAll := wI6 164 (by decide +kernel) (by decide +kernel)
theorem fl_X11_66 : fl RX11 66 12 26 := ⟨RX11, TX11, 32, rfl, inA_X11, by decide, w_1459⟩
theorem dX11_hangs_156 : decode cX11_hangs 156 = .ok (.iload_n 1, 1) := by decide +kernel
theorem dX11_hangs_157 : decode cX11_hangs 157 = .ok (.aload_n 0, 1) := by decide +kernel
theorem dX11_hangs_158 : decode cX11_hangs 158 = .ok (.iload_n 1, 1) := by decide +kernel
theorem dX11_hangs_159 : decode cX11_hangs 159 = .ok (.invokevirtual 377, 3) := by decide +kernel
theorem w_1969 : Cond.methodLink "QuarterWalksModel" 377 yX11_leadOf ∈ wAll := wI8 194 (by decide +kernel) (by decide +kernel)
theorem w_85 : Cond.selects yX11_leadOf.cls yX11_leadOf yX11_leadOf ∈ wAll := wIn 85 (by decide +kernel) (by decide +kernel)
theorem mk_X11_leadOf : mk yX11_leadOf 1 := ⟨by decide +kernel, w_110⟩
theorem w_1971 : Cond.instanceMethod yX11_leadOf ∈ wAll := wI8 196 (by decide +kernel) (by decide +kernel)
theorem w_1972 : Cond.code yX11_leadOf cX11_leadOf 3 (some .int) ∈ wAll := wI8 197 (by decide +kernel) (by decide +kernel)
theorem dX11_hangs_162 : decode cX11_hangs 162 = .ok (.iastore, 1) := by decide +kernel
theorem dX11_hangs_163 : decode cX11_hangs 163 = .ok (.aload_n 0, 1) := by decide +kernel
theorem dX11_hangs_164 : decode cX11_hangs 164 = .ok (.getfield 66, 3) := by decide +kernel
theorem dX11_hangs_167 : decode cX11_hangs 167 = .ok (.iload_n 1, 1) := by decide +kernel
theorem dX11_hangs_168 : decode cX11_hangs 168 = .ok (.iaload, 1) := by decide +kernel
theorem dX11_hangs_169 : decode cX11_hangs 169 = .ok (.iconst (-1), 1) := by decide +kernel
theorem dX11_hangs_170 : decode cX11_hangs 170 = .ok (.if_icmp .eq 6, 3) := by decide +kernel
theorem dX11_hangs_176 : decode cX11_hangs 176 = .ok (.iconst 0, 1) := by decide +kernel
theorem dX11_hangs_177 : decode cX11_hangs 177 = .ok (.istore_n 2, 1) := by decide +kernel
theorem dX11_hangs_173 : decode cX11_hangs 173 = .ok (.goto 38, 3) := by decide +kernel
theorem dX11_hangs_211 : decode cX11_hangs 211 = .ok (.iinc 1 1, 3) := by decide +kernel
theorem dX11_hangs_214 : decode cX11_hangs 214 = .ok (.goto (-212), 3) := by decide +kernel
theorem dX11_hangs_92 : decode cX11_hangs 92 = .ok (.aload_n 0, 1) := by decide +kernel
theorem dX11_hangs_93 : decode cX11_hangs 93 = .ok (.getfield 57, 3) := by decide +kernel
theorem dX11_hangs_96 : decode cX11_hangs 96 = .ok (.bipush 61, 2) := by decide +kernel
theorem dX11_hangs_98 : decode cX11_hangs 98 = .ok (.iload_n 1, 1) := by decide +kernel
theorem dX11_hangs_99 : decode cX11_hangs 99 = .ok (.imul, 1) := by decide +kernel
theorem dX11_hangs_100 : decode cX11_hangs 100 = .ok (.aload_n 0, 1) := by decide +kernel
theorem dX11_hangs_101 : decode cX11_hangs 101 = .ok (.getfield 66, 3) := by decide +kernel
theorem dX11_hangs_104 : decode cX11_hangs 104 = .ok (.iload_n 2, 1) := by decide +kernel
theorem dX11_hangs_105 : decode cX11_hangs 105 = .ok (.iaload, 1) := by decide +kernel
theorem dX11_hangs_106 : decode cX11_hangs 106 = .ok (.iadd, 1) := by decide +kernel
theorem dX11_hangs_107 : decode cX11_hangs 107 = .ok (.laload, 1) := by decide +kernel
theorem dX11_hangs_108 : decode cX11_hangs 108 = .ok (.lstore_n 3, 1) := by decide +kernel
theorem dX11_hangs_109 : decode cX11_hangs 109 = .ok (.lload_n 3, 1) := by decide +kernel
theorem dX11_hangs_110 : decode cX11_hangs 110 = .ok (.lconst 0, 1) := by decide +kernel
theorem dX11_hangs_111 : decode cX11_hangs 111 = .ok (.lcmp, 1) := by decide +kernel
theorem dX11_hangs_112 : decode cX11_hangs 112 = .ok (.ifCond .eq 34, 3) := by decide +kernel
theorem dX11_hangs_146 : decode cX11_hangs 146 = .ok (.iinc 2 1, 3) := by decide +kernel
theorem dX11_hangs_149 : decode cX11_hangs 149 = .ok (.goto (-62), 3) := by decide +kernel
theorem dX11_hangs_115 : decode cX11_hangs 115 = .ok (.aload_n 0, 1) := by decide +kernel
theorem dX11_hangs_116 : decode cX11_hangs 116 = .ok (.iload_n 1, 1) := by decide +kernel
theorem dX11_hangs_117 : decode cX11_hangs 117 = .ok (.iload_n 2, 1) := by decide +kernel
theorem dX11_hangs_118 : decode cX11_hangs 118 = .ok (.lload_n 3, 1) := by decide +kernel
theorem dX11_hangs_119 : decode cX11_hangs 119 = .ok (.aload_n 0, 1) := by decide +kernel
theorem dX11_hangs_120 : decode cX11_hangs 120 = .ok (.getfield 57, 3) := by decide +kernel
theorem dX11_hangs_123 : decode cX11_hangs 123 = .ok (.bipush 61, 2) := by decide +kernel
theorem dX11_hangs_125 : decode cX11_hangs 125 = .ok (.iload_n 2, 1) := by decide +kernel
theorem dX11_hangs_126 : decode cX11_hangs 126 = .ok (.imul, 1) := by decide +kernel
theorem dX11_hangs_127 : decode cX11_hangs 127 = .ok (.aload_n 0, 1) := by decide +kernel
theorem dX11_hangs_128 : decode cX11_hangs 128 = .ok (.getfield 66, 3) := by decide +kernel
theorem dX11_hangs_131 : decode cX11_hangs 131 = .ok (.iload_n 2, 1) := by decide +kernel
theorem dX11_hangs_132 : decode cX11_hangs 132 = .ok (.iaload, 1) := by decide +kernel
theorem dX11_hangs_133 : decode cX11_hangs 133 = .ok (.iadd, 1) := by decide +kernel
theorem dX11_hangs_134 : decode cX11_hangs 134 = .ok (.laload, 1) := by decide +kernel
theorem dX11_hangs_135 : decode cX11_hangs 135 = .ok (.invokestatic 297, 3) := by decide +kernel
theorem dX11_hangs_138 : decode cX11_hangs 138 = .ok (.lmul, 1) := by decide +kernel
theorem dX11_hangs_139 : decode cX11_hangs 139 = .ok (.ldc2_w 212, 3) := by decide +kernel
theorem dX11_hangs_142 : decode cX11_hangs 142 = .ok (.lrem, 1) := by decide +kernel
theorem dX11_hangs_143 : decode cX11_hangs 143 = .ok (.invokevirtual 373, 3) := by decide +kernel
theorem w_1965 : Cond.methodLink "QuarterWalksModel" 373 yX11_less ∈ wAll := wI8 190 (by decide +kernel) (by decide +kernel)
theorem w_84 : Cond.selects yX11_less.cls yX11_less yX11_less ∈ wAll := wIn 84 (by decide +kernel) (by decide +kernel)
theorem mk_X11_less : mk yX11_less 3 := ⟨by decide +kernel, w_110⟩
theorem w_1967 : Cond.instanceMethod yX11_less ∈ wAll := wI8 192 (by decide +kernel) (by decide +kernel)
theorem w_1968 : Cond.code yX11_less cX11_less 6 none ∈ wAll := wI8 193 (by decide +kernel) (by decide +kernel)
theorem dX11_hangs_178 : decode cX11_hangs 178 = .ok (.iload_n 2, 1) := by decide +kernel
theorem dX11_hangs_179 : decode cX11_hangs 179 = .ok (.aload_n 0, 1) := by decide +kernel
theorem dX11_hangs_180 : decode cX11_hangs 180 = .ok (.getfield 370, 3) := by decide +kernel
theorem dX11_hangs_183 : decode cX11_hangs 183 = .ok (.if_icmp .ge 26, 3) := by decide +kernel
theorem dX11_hangs_209 : decode cX11_hangs 209 = .ok (.iconst 1, 1) := by decide +kernel
theorem dX11_hangs_186 : decode cX11_hangs 186 = .ok (.aload_n 0, 1) := by decide +kernel
theorem dX11_hangs_187 : decode cX11_hangs 187 = .ok (.getfield 63, 3) := by decide +kernel
theorem w_1458 : Cond.fieldLink "QuarterWalksModel" 63 "QuarterWalksModel" "told" "[J" ∈ wAll := wI6 163 (by decide +kernel) (by decide +kernel)
theorem fl_X11_63 : fl RX11 63 12 25 := ⟨RX11, TX11, 32, rfl, inA_X11, by decide, w_1458⟩
theorem dX11_hangs_190 : decode cX11_hangs 190 = .ok (.iload_n 2, 1) := by decide +kernel
theorem dX11_hangs_191 : decode cX11_hangs 191 = .ok (.aload_n 0, 1) := by decide +kernel
theorem dX11_hangs_192 : decode cX11_hangs 192 = .ok (.getfield 60, 3) := by decide +kernel
theorem dX11_hangs_195 : decode cX11_hangs 195 = .ok (.bipush 28, 2) := by decide +kernel
theorem dX11_hangs_197 : decode cX11_hangs 197 = .ok (.iload_n 1, 1) := by decide +kernel
theorem dX11_hangs_198 : decode cX11_hangs 198 = .ok (.imul, 1) := by decide +kernel
theorem dX11_hangs_199 : decode cX11_hangs 199 = .ok (.iload_n 2, 1) := by decide +kernel
theorem dX11_hangs_200 : decode cX11_hangs 200 = .ok (.iadd, 1) := by decide +kernel
theorem dX11_hangs_201 : decode cX11_hangs 201 = .ok (.laload, 1) := by decide +kernel
theorem dX11_hangs_202 : decode cX11_hangs 202 = .ok (.lastore, 1) := by decide +kernel
theorem dX11_hangs_203 : decode cX11_hangs 203 = .ok (.iinc 2 1, 3) := by decide +kernel
theorem dX11_hangs_206 : decode cX11_hangs 206 = .ok (.goto (-28), 3) := by decide +kernel
theorem dX11_hangs_210 : decode cX11_hangs 210 = .ok (.ireturn, 1) := by decide +kernel
theorem dX11_hangs_218 : decode cX11_hangs 218 = .ok (.ireturn, 1) := by decide +kernel
theorem dX11_laysPowers_0 : decode cX11_laysPowers 0 = .ok (.iconst 0, 1) := by decide +kernel
theorem dX11_laysPowers_1 : decode cX11_laysPowers 1 = .ok (.istore_n 1, 1) := by decide +kernel
theorem dX11_laysPowers_2 : decode cX11_laysPowers 2 = .ok (.iload_n 1, 1) := by decide +kernel
theorem dX11_laysPowers_3 : decode cX11_laysPowers 3 = .ok (.bipush 61, 2) := by decide +kernel
theorem dX11_laysPowers_5 : decode cX11_laysPowers 5 = .ok (.if_icmp .ge 24, 3) := by decide +kernel
theorem dX11_laysPowers_8 : decode cX11_laysPowers 8 = .ok (.aload_n 0, 1) := by decide +kernel
theorem dX11_laysPowers_9 : decode cX11_laysPowers 9 = .ok (.getfield 69, 3) := by decide +kernel
theorem w_1462 : Cond.fieldLink "QuarterWalksModel" 69 "QuarterWalksModel" "powers" "[J" ∈ wAll := wI6 167 (by decide +kernel) (by decide +kernel)
theorem fl_X11_69 : fl RX11 69 12 29 := ⟨RX11, TX11, 32, rfl, inA_X11, by decide, w_1462⟩
theorem dX11_laysPowers_12 : decode cX11_laysPowers 12 = .ok (.iload_n 1, 1) := by decide +kernel
theorem dX11_laysPowers_13 : decode cX11_laysPowers 13 = .ok (.iload_n 1, 1) := by decide +kernel
theorem dX11_laysPowers_14 : decode cX11_laysPowers 14 = .ok (.ifCond .ne 7, 3) := by decide +kernel
theorem dX11_laysPowers_17 : decode cX11_laysPowers 17 = .ok (.lconst 1, 1) := by decide +kernel
theorem dX11_laysPowers_18 : decode cX11_laysPowers 18 = .ok (.goto 4, 3) := by decide +kernel
theorem dX11_laysPowers_22 : decode cX11_laysPowers 22 = .ok (.lastore, 1) := by decide +kernel
theorem dX11_laysPowers_23 : decode cX11_laysPowers 23 = .ok (.iinc 1 1, 3) := by decide +kernel
theorem dX11_laysPowers_26 : decode cX11_laysPowers 26 = .ok (.goto (-24), 3) := by decide +kernel
theorem dX11_laysPowers_21 : decode cX11_laysPowers 21 = .ok (.lconst 0, 1) := by decide +kernel
theorem dX11_laysPowers_29 : decode cX11_laysPowers 29 = .ok (.iconst 1, 1) := by decide +kernel
theorem dX11_laysPowers_30 : decode cX11_laysPowers 30 = .ok (.istore_n 1, 1) := by decide +kernel
theorem dX11_laysPowers_31 : decode cX11_laysPowers 31 = .ok (.iload_n 1, 1) := by decide +kernel
theorem dX11_laysPowers_32 : decode cX11_laysPowers 32 = .ok (.iconst 4, 1) := by decide +kernel
theorem dX11_laysPowers_33 : decode cX11_laysPowers 33 = .ok (.if_icmp .ge 88, 3) := by decide +kernel
theorem dX11_laysPowers_36 : decode cX11_laysPowers 36 = .ok (.iconst 0, 1) := by decide +kernel
theorem dX11_laysPowers_37 : decode cX11_laysPowers 37 = .ok (.istore_n 2, 1) := by decide +kernel
theorem dX11_laysPowers_38 : decode cX11_laysPowers 38 = .ok (.iload_n 2, 1) := by decide +kernel
theorem dX11_laysPowers_39 : decode cX11_laysPowers 39 = .ok (.bipush 61, 2) := by decide +kernel
theorem dX11_laysPowers_41 : decode cX11_laysPowers 41 = .ok (.if_icmp .ge 74, 3) := by decide +kernel
theorem dX11_laysPowers_44 : decode cX11_laysPowers 44 = .ok (.lconst 0, 1) := by decide +kernel
theorem dX11_laysPowers_45 : decode cX11_laysPowers 45 = .ok (.lstore_n 3, 1) := by decide +kernel
theorem dX11_laysPowers_46 : decode cX11_laysPowers 46 = .ok (.iconst 0, 1) := by decide +kernel
theorem dX11_laysPowers_47 : decode cX11_laysPowers 47 = .ok (.istore 5, 2) := by decide +kernel
theorem dX11_laysPowers_49 : decode cX11_laysPowers 49 = .ok (.iload 5, 2) := by decide +kernel
theorem dX11_laysPowers_51 : decode cX11_laysPowers 51 = .ok (.iload_n 2, 1) := by decide +kernel
theorem dX11_laysPowers_52 : decode cX11_laysPowers 52 = .ok (.if_icmp .gt 41, 3) := by decide +kernel
theorem dX11_laysPowers_55 : decode cX11_laysPowers 55 = .ok (.lload_n 3, 1) := by decide +kernel
theorem dX11_laysPowers_56 : decode cX11_laysPowers 56 = .ok (.aload_n 0, 1) := by decide +kernel
theorem dX11_laysPowers_57 : decode cX11_laysPowers 57 = .ok (.getfield 69, 3) := by decide +kernel
theorem dX11_laysPowers_60 : decode cX11_laysPowers 60 = .ok (.bipush 61, 2) := by decide +kernel
theorem dX11_laysPowers_62 : decode cX11_laysPowers 62 = .ok (.iload_n 1, 1) := by decide +kernel
theorem dX11_laysPowers_63 : decode cX11_laysPowers 63 = .ok (.iconst 1, 1) := by decide +kernel
theorem dX11_laysPowers_64 : decode cX11_laysPowers 64 = .ok (.isub, 1) := by decide +kernel
theorem dX11_laysPowers_65 : decode cX11_laysPowers 65 = .ok (.imul, 1) := by decide +kernel
theorem dX11_laysPowers_66 : decode cX11_laysPowers 66 = .ok (.iload 5, 2) := by decide +kernel
theorem dX11_laysPowers_68 : decode cX11_laysPowers 68 = .ok (.iadd, 1) := by decide +kernel
theorem dX11_laysPowers_69 : decode cX11_laysPowers 69 = .ok (.laload, 1) := by decide +kernel
theorem dX11_laysPowers_70 : decode cX11_laysPowers 70 = .ok (.aload_n 0, 1) := by decide +kernel
theorem dX11_laysPowers_71 : decode cX11_laysPowers 71 = .ok (.getfield 36, 3) := by decide +kernel
theorem dX11_laysPowers_74 : decode cX11_laysPowers 74 = .ok (.iload_n 2, 1) := by decide +kernel
theorem dX11_laysPowers_75 : decode cX11_laysPowers 75 = .ok (.iload 5, 2) := by decide +kernel
theorem dX11_laysPowers_77 : decode cX11_laysPowers 77 = .ok (.isub, 1) := by decide +kernel
theorem dX11_laysPowers_78 : decode cX11_laysPowers 78 = .ok (.iaload, 1) := by decide +kernel
theorem dX11_laysPowers_79 : decode cX11_laysPowers 79 = .ok (.i2l, 1) := by decide +kernel
theorem dX11_laysPowers_80 : decode cX11_laysPowers 80 = .ok (.lmul, 1) := by decide +kernel
theorem dX11_laysPowers_81 : decode cX11_laysPowers 81 = .ok (.ldc2_w 212, 3) := by decide +kernel
theorem dX11_laysPowers_84 : decode cX11_laysPowers 84 = .ok (.lrem, 1) := by decide +kernel
theorem dX11_laysPowers_85 : decode cX11_laysPowers 85 = .ok (.ladd, 1) := by decide +kernel
theorem dX11_laysPowers_86 : decode cX11_laysPowers 86 = .ok (.lstore_n 3, 1) := by decide +kernel
theorem dX11_laysPowers_87 : decode cX11_laysPowers 87 = .ok (.iinc 5 1, 3) := by decide +kernel
theorem dX11_laysPowers_90 : decode cX11_laysPowers 90 = .ok (.goto (-41), 3) := by decide +kernel
theorem dX11_laysPowers_93 : decode cX11_laysPowers 93 = .ok (.aload_n 0, 1) := by decide +kernel
theorem dX11_laysPowers_94 : decode cX11_laysPowers 94 = .ok (.getfield 69, 3) := by decide +kernel
theorem dX11_laysPowers_97 : decode cX11_laysPowers 97 = .ok (.bipush 61, 2) := by decide +kernel
theorem dX11_laysPowers_99 : decode cX11_laysPowers 99 = .ok (.iload_n 1, 1) := by decide +kernel
theorem dX11_laysPowers_100 : decode cX11_laysPowers 100 = .ok (.imul, 1) := by decide +kernel
theorem dX11_laysPowers_101 : decode cX11_laysPowers 101 = .ok (.iload_n 2, 1) := by decide +kernel
theorem dX11_laysPowers_102 : decode cX11_laysPowers 102 = .ok (.iadd, 1) := by decide +kernel
theorem dX11_laysPowers_103 : decode cX11_laysPowers 103 = .ok (.lload_n 3, 1) := by decide +kernel
theorem dX11_laysPowers_104 : decode cX11_laysPowers 104 = .ok (.ldc2_w 212, 3) := by decide +kernel
theorem dX11_laysPowers_107 : decode cX11_laysPowers 107 = .ok (.lrem, 1) := by decide +kernel
theorem dX11_laysPowers_108 : decode cX11_laysPowers 108 = .ok (.lastore, 1) := by decide +kernel
theorem dX11_laysPowers_109 : decode cX11_laysPowers 109 = .ok (.iinc 2 1, 3) := by decide +kernel
theorem dX11_laysPowers_112 : decode cX11_laysPowers 112 = .ok (.goto (-74), 3) := by decide +kernel
theorem dX11_laysPowers_115 : decode cX11_laysPowers 115 = .ok (.iinc 1 1, 3) := by decide +kernel
theorem dX11_laysPowers_118 : decode cX11_laysPowers 118 = .ok (.goto (-87), 3) := by decide +kernel
theorem dX11_laysPowers_121 : decode cX11_laysPowers 121 = .ok (.return_, 1) := by decide +kernel
theorem dX11_laysAll_0 : decode cX11_laysAll 0 = .ok (.aload_n 0, 1) := by decide +kernel
theorem dX11_laysAll_1 : decode cX11_laysAll 1 = .ok (.iload_n 1, 1) := by decide +kernel
theorem dX11_laysAll_2 : decode cX11_laysAll 2 = .ok (.iload_n 2, 1) := by decide +kernel
theorem dX11_laysAll_3 : decode cX11_laysAll 3 = .ok (.iconst 0, 1) := by decide +kernel
theorem dX11_laysAll_4 : decode cX11_laysAll 4 = .ok (.bipush 60, 2) := by decide +kernel
theorem dX11_laysAll_6 : decode cX11_laysAll 6 = .ok (.aload_n 0, 1) := by decide +kernel
theorem dX11_laysAll_7 : decode cX11_laysAll 7 = .ok (.getfield 36, 3) := by decide +kernel
theorem dX11_laysAll_10 : decode cX11_laysAll 10 = .ok (.invokevirtual 272, 3) := by decide +kernel
theorem dX11_laysAll_13 : decode cX11_laysAll 13 = .ok (.aload_n 0, 1) := by decide +kernel
theorem dX11_laysAll_14 : decode cX11_laysAll 14 = .ok (.invokevirtual 393, 3) := by decide +kernel
theorem w_1946 : Cond.methodLink "QuarterWalksModel" 393 yX11_laysPowers ∈ wAll := wI8 171 (by decide +kernel) (by decide +kernel)
theorem w_80 : Cond.selects yX11_laysPowers.cls yX11_laysPowers yX11_laysPowers ∈ wAll := wIn 80 (by decide +kernel) (by decide +kernel)
theorem mk_X11_laysPowers : mk yX11_laysPowers 0 := ⟨by decide +kernel, w_110⟩
theorem w_1948 : Cond.instanceMethod yX11_laysPowers ∈ wAll := wI8 173 (by decide +kernel) (by decide +kernel)
theorem w_1949 : Cond.code yX11_laysPowers cX11_laysPowers 6 none ∈ wAll := wI8 174 (by decide +kernel) (by decide +kernel)
theorem dX11_laysAll_17 : decode cX11_laysAll 17 = .ok (.return_, 1) := by decide +kernel
theorem dX11_entry_0 : decode cX11_entry 0 = .ok (.iload_n 1, 1) := by decide +kernel
theorem dX11_entry_1 : decode cX11_entry 1 = .ok (.ifCond .ne 30, 3) := by decide +kernel
theorem dX11_entry_4 : decode cX11_entry 4 = .ok (.iload 4, 2) := by decide +kernel
theorem dX11_entry_6 : decode cX11_entry 6 = .ok (.ldc_w 276, 3) := by decide +kernel
theorem dX11_entry_9 : decode cX11_entry 9 = .ok (.irem, 1) := by decide +kernel
theorem dX11_entry_10 : decode cX11_entry 10 = .ok (.i2l, 1) := by decide +kernel
theorem dX11_entry_11 : decode cX11_entry 11 = .ok (.iload_n 3, 1) := by decide +kernel
theorem dX11_entry_12 : decode cX11_entry 12 = .ok (.invokestatic 380, 3) := by decide +kernel
theorem w_1958 : Cond.methodLink "QuarterWalksModel" 380 yX11_power ∈ wAll := wI8 183 (by decide +kernel) (by decide +kernel)
theorem mk_X11_power : mk yX11_power 2 := ⟨by decide +kernel, w_110⟩
theorem w_1959 : Cond.static yX11_power ∈ wAll := wI8 184 (by decide +kernel) (by decide +kernel)
theorem w_1960 : Cond.code yX11_power cX11_power 6 (some .long) ∈ wAll := wI8 185 (by decide +kernel) (by decide +kernel)
theorem dX11_entry_15 : decode cX11_entry 15 = .ok (.aload_n 0, 1) := by decide +kernel
theorem dX11_entry_16 : decode cX11_entry 16 = .ok (.getfield 36, 3) := by decide +kernel
theorem dX11_entry_19 : decode cX11_entry 19 = .ok (.iload 4, 2) := by decide +kernel
theorem dX11_entry_21 : decode cX11_entry 21 = .ok (.iload_n 2, 1) := by decide +kernel
theorem dX11_entry_22 : decode cX11_entry 22 = .ok (.iadd, 1) := by decide +kernel
theorem dX11_entry_23 : decode cX11_entry 23 = .ok (.iaload, 1) := by decide +kernel
theorem dX11_entry_24 : decode cX11_entry 24 = .ok (.i2l, 1) := by decide +kernel
theorem dX11_entry_25 : decode cX11_entry 25 = .ok (.lmul, 1) := by decide +kernel
theorem dX11_entry_26 : decode cX11_entry 26 = .ok (.ldc2_w 212, 3) := by decide +kernel
theorem dX11_entry_29 : decode cX11_entry 29 = .ok (.lrem, 1) := by decide +kernel
theorem dX11_entry_30 : decode cX11_entry 30 = .ok (.lreturn, 1) := by decide +kernel
theorem dX11_guesses_0 : decode cX11_guesses 0 = .ok (.aload_n 0, 1) := by decide +kernel
theorem dX11_guesses_1 : decode cX11_guesses 1 = .ok (.iload_n 2, 1) := by decide +kernel
theorem dX11_guesses_2 : decode cX11_guesses 2 = .ok (.iconst 1, 1) := by decide +kernel
theorem dX11_guesses_3 : decode cX11_guesses 3 = .ok (.iadd, 1) := by decide +kernel
theorem dX11_guesses_4 : decode cX11_guesses 4 = .ok (.iload_n 3, 1) := by decide +kernel
theorem dX11_guesses_5 : decode cX11_guesses 5 = .ok (.iconst 1, 1) := by decide +kernel
theorem dX11_guesses_6 : decode cX11_guesses 6 = .ok (.iadd, 1) := by decide +kernel
theorem dX11_guesses_7 : decode cX11_guesses 7 = .ok (.imul, 1) := by decide +kernel
theorem dX11_guesses_8 : decode cX11_guesses 8 = .ok (.putfield 370, 3) := by decide +kernel
theorem flw_X11_370 : flw RX11 370 12 27 (.int) := ⟨RX11, TX11, 32, tyX11, rfl, inA_X11, by decide, w_1460, tyX11_ok, nmX11, by decide +kernel, Or.inl rfl⟩
theorem dX11_guesses_11 : decode cX11_guesses 11 = .ok (.aload_n 0, 1) := by decide +kernel
theorem dX11_guesses_12 : decode cX11_guesses 12 = .ok (.aload_n 0, 1) := by decide +kernel
theorem dX11_guesses_13 : decode cX11_guesses 13 = .ok (.getfield 370, 3) := by decide +kernel
theorem dX11_guesses_16 : decode cX11_guesses 16 = .ok (.iconst 4, 1) := by decide +kernel
theorem dX11_guesses_17 : decode cX11_guesses 17 = .ok (.iadd, 1) := by decide +kernel
theorem dX11_guesses_18 : decode cX11_guesses 18 = .ok (.putfield 367, 3) := by decide +kernel
theorem flw_X11_367 : flw RX11 367 12 28 (.int) := ⟨RX11, TX11, 32, tyX11, rfl, inA_X11, by decide, w_1461, tyX11_ok, nmX11, by decide +kernel, Or.inl rfl⟩
theorem dX11_guesses_21 : decode cX11_guesses 21 = .ok (.iconst 0, 1) := by decide +kernel
theorem dX11_guesses_22 : decode cX11_guesses 22 = .ok (.istore 4, 2) := by decide +kernel
theorem dX11_guesses_24 : decode cX11_guesses 24 = .ok (.iload 4, 2) := by decide +kernel
theorem dX11_guesses_26 : decode cX11_guesses 26 = .ok (.iload_n 2, 1) := by decide +kernel
theorem dX11_guesses_27 : decode cX11_guesses 27 = .ok (.if_icmp .gt 73, 3) := by decide +kernel
theorem dX11_guesses_30 : decode cX11_guesses 30 = .ok (.iconst 0, 1) := by decide +kernel
theorem dX11_guesses_31 : decode cX11_guesses 31 = .ok (.istore 5, 2) := by decide +kernel
theorem dX11_guesses_33 : decode cX11_guesses 33 = .ok (.iload 5, 2) := by decide +kernel
theorem dX11_guesses_35 : decode cX11_guesses 35 = .ok (.iload_n 3, 1) := by decide +kernel
theorem dX11_guesses_36 : decode cX11_guesses 36 = .ok (.if_icmp .gt 58, 3) := by decide +kernel
theorem dX11_guesses_39 : decode cX11_guesses 39 = .ok (.iconst 0, 1) := by decide +kernel
theorem dX11_guesses_40 : decode cX11_guesses 40 = .ok (.istore 6, 2) := by decide +kernel
theorem dX11_guesses_42 : decode cX11_guesses 42 = .ok (.iload 6, 2) := by decide +kernel
theorem dX11_guesses_44 : decode cX11_guesses 44 = .ok (.aload_n 0, 1) := by decide +kernel
theorem dX11_guesses_45 : decode cX11_guesses 45 = .ok (.getfield 367, 3) := by decide +kernel
theorem dX11_guesses_48 : decode cX11_guesses 48 = .ok (.if_icmp .ge 40, 3) := by decide +kernel
theorem dX11_guesses_88 : decode cX11_guesses 88 = .ok (.iinc 5 1, 3) := by decide +kernel
theorem dX11_guesses_91 : decode cX11_guesses 91 = .ok (.goto (-58), 3) := by decide +kernel
theorem dX11_guesses_51 : decode cX11_guesses 51 = .ok (.aload_n 0, 1) := by decide +kernel
theorem dX11_guesses_52 : decode cX11_guesses 52 = .ok (.getfield 54, 3) := by decide +kernel
theorem dX11_guesses_55 : decode cX11_guesses 55 = .ok (.bipush 61, 2) := by decide +kernel
theorem dX11_guesses_57 : decode cX11_guesses 57 = .ok (.iload_n 3, 1) := by decide +kernel
theorem dX11_guesses_58 : decode cX11_guesses 58 = .ok (.iconst 1, 1) := by decide +kernel
theorem dX11_guesses_59 : decode cX11_guesses 59 = .ok (.iadd, 1) := by decide +kernel
theorem dX11_guesses_60 : decode cX11_guesses 60 = .ok (.iload 4, 2) := by decide +kernel
theorem dX11_guesses_62 : decode cX11_guesses 62 = .ok (.imul, 1) := by decide +kernel
theorem dX11_guesses_63 : decode cX11_guesses 63 = .ok (.iload 5, 2) := by decide +kernel
theorem dX11_guesses_65 : decode cX11_guesses 65 = .ok (.iadd, 1) := by decide +kernel
theorem dX11_guesses_66 : decode cX11_guesses 66 = .ok (.imul, 1) := by decide +kernel
theorem dX11_guesses_67 : decode cX11_guesses 67 = .ok (.iload 6, 2) := by decide +kernel
theorem dX11_guesses_69 : decode cX11_guesses 69 = .ok (.iadd, 1) := by decide +kernel
theorem dX11_guesses_70 : decode cX11_guesses 70 = .ok (.aload_n 0, 1) := by decide +kernel
theorem dX11_guesses_71 : decode cX11_guesses 71 = .ok (.iload_n 1, 1) := by decide +kernel
theorem dX11_guesses_72 : decode cX11_guesses 72 = .ok (.iload 4, 2) := by decide +kernel
theorem dX11_guesses_74 : decode cX11_guesses 74 = .ok (.iload 5, 2) := by decide +kernel
theorem dX11_guesses_76 : decode cX11_guesses 76 = .ok (.iload 6, 2) := by decide +kernel
theorem dX11_guesses_78 : decode cX11_guesses 78 = .ok (.invokevirtual 383, 3) := by decide +kernel
theorem w_1954 : Cond.methodLink "QuarterWalksModel" 383 yX11_entry ∈ wAll := wI8 179 (by decide +kernel) (by decide +kernel)
theorem w_82 : Cond.selects yX11_entry.cls yX11_entry yX11_entry ∈ wAll := wIn 82 (by decide +kernel) (by decide +kernel)
theorem mk_X11_entry : mk yX11_entry 4 := ⟨by decide +kernel, w_110⟩
theorem w_1956 : Cond.instanceMethod yX11_entry ∈ wAll := wI8 181 (by decide +kernel) (by decide +kernel)
theorem w_1957 : Cond.code yX11_entry cX11_entry 5 (some .long) ∈ wAll := wI8 182 (by decide +kernel) (by decide +kernel)
theorem dX11_guesses_81 : decode cX11_guesses 81 = .ok (.lastore, 1) := by decide +kernel
theorem dX11_guesses_82 : decode cX11_guesses 82 = .ok (.iinc 6 1, 3) := by decide +kernel
theorem dX11_guesses_85 : decode cX11_guesses 85 = .ok (.goto (-43), 3) := by decide +kernel
theorem dX11_guesses_94 : decode cX11_guesses 94 = .ok (.iinc 4 1, 3) := by decide +kernel
theorem dX11_guesses_97 : decode cX11_guesses 97 = .ok (.goto (-73), 3) := by decide +kernel
theorem dX11_guesses_100 : decode cX11_guesses 100 = .ok (.aload_n 0, 1) := by decide +kernel
theorem dX11_guesses_101 : decode cX11_guesses 101 = .ok (.invokevirtual 386, 3) := by decide +kernel
theorem w_1961 : Cond.methodLink "QuarterWalksModel" 386 yX11_hangs ∈ wAll := wI8 186 (by decide +kernel) (by decide +kernel)
theorem w_83 : Cond.selects yX11_hangs.cls yX11_hangs yX11_hangs ∈ wAll := wIn 83 (by decide +kernel) (by decide +kernel)
theorem mk_X11_hangs : mk yX11_hangs 0 := ⟨by decide +kernel, w_110⟩
theorem w_1963 : Cond.instanceMethod yX11_hangs ∈ wAll := wI8 188 (by decide +kernel) (by decide +kernel)
theorem w_1964 : Cond.code yX11_hangs cX11_hangs 5 (some .boolean) ∈ wAll := wI8 189 (by decide +kernel) (by decide +kernel)
theorem dX11_guesses_104 : decode cX11_guesses 104 = .ok (.ireturn, 1) := by decide +kernel
theorem dX11_failsAt_0 : decode cX11_failsAt 0 = .ok (.iconst 0, 1) := by decide +kernel
theorem dX11_failsAt_1 : decode cX11_failsAt 1 = .ok (.istore 4, 2) := by decide +kernel
theorem dX11_failsAt_3 : decode cX11_failsAt 3 = .ok (.iload 4, 2) := by decide +kernel
theorem dX11_failsAt_5 : decode cX11_failsAt 5 = .ok (.iload_n 1, 1) := by decide +kernel
theorem dX11_failsAt_6 : decode cX11_failsAt 6 = .ok (.ifCond .ne 10, 3) := by decide +kernel
theorem dX11_failsAt_9 : decode cX11_failsAt 9 = .ok (.bipush 60, 2) := by decide +kernel
theorem dX11_failsAt_11 : decode cX11_failsAt 11 = .ok (.iload_n 2, 1) := by decide +kernel
theorem dX11_failsAt_12 : decode cX11_failsAt 12 = .ok (.isub, 1) := by decide +kernel
theorem dX11_failsAt_13 : decode cX11_failsAt 13 = .ok (.goto 5, 3) := by decide +kernel
theorem dX11_failsAt_18 : decode cX11_failsAt 18 = .ok (.if_icmp .gt 91, 3) := by decide +kernel
theorem dX11_failsAt_21 : decode cX11_failsAt 21 = .ok (.lconst 0, 1) := by decide +kernel
theorem dX11_failsAt_22 : decode cX11_failsAt 22 = .ok (.lstore 5, 2) := by decide +kernel
theorem dX11_failsAt_24 : decode cX11_failsAt 24 = .ok (.iconst 0, 1) := by decide +kernel
theorem dX11_failsAt_25 : decode cX11_failsAt 25 = .ok (.istore 7, 2) := by decide +kernel
theorem dX11_failsAt_27 : decode cX11_failsAt 27 = .ok (.iload 7, 2) := by decide +kernel
theorem dX11_failsAt_29 : decode cX11_failsAt 29 = .ok (.iload_n 2, 1) := by decide +kernel
theorem dX11_failsAt_30 : decode cX11_failsAt 30 = .ok (.if_icmp .gt 59, 3) := by decide +kernel
theorem dX11_failsAt_33 : decode cX11_failsAt 33 = .ok (.iconst 0, 1) := by decide +kernel
theorem dX11_failsAt_34 : decode cX11_failsAt 34 = .ok (.istore 8, 2) := by decide +kernel
theorem dX11_failsAt_36 : decode cX11_failsAt 36 = .ok (.iload 8, 2) := by decide +kernel
theorem dX11_failsAt_38 : decode cX11_failsAt 38 = .ok (.iload_n 3, 1) := by decide +kernel
theorem dX11_failsAt_39 : decode cX11_failsAt 39 = .ok (.if_icmp .gt 44, 3) := by decide +kernel
theorem dX11_failsAt_42 : decode cX11_failsAt 42 = .ok (.lload 5, 2) := by decide +kernel
theorem dX11_failsAt_44 : decode cX11_failsAt 44 = .ok (.aload_n 0, 1) := by decide +kernel
theorem dX11_failsAt_45 : decode cX11_failsAt 45 = .ok (.getfield 63, 3) := by decide +kernel
theorem dX11_failsAt_48 : decode cX11_failsAt 48 = .ok (.iload_n 3, 1) := by decide +kernel
theorem dX11_failsAt_49 : decode cX11_failsAt 49 = .ok (.iconst 1, 1) := by decide +kernel
theorem dX11_failsAt_50 : decode cX11_failsAt 50 = .ok (.iadd, 1) := by decide +kernel
theorem dX11_failsAt_51 : decode cX11_failsAt 51 = .ok (.iload 7, 2) := by decide +kernel
theorem dX11_failsAt_53 : decode cX11_failsAt 53 = .ok (.imul, 1) := by decide +kernel
theorem dX11_failsAt_54 : decode cX11_failsAt 54 = .ok (.iload 8, 2) := by decide +kernel
theorem dX11_failsAt_56 : decode cX11_failsAt 56 = .ok (.iadd, 1) := by decide +kernel
theorem dX11_failsAt_57 : decode cX11_failsAt 57 = .ok (.laload, 1) := by decide +kernel
theorem dX11_failsAt_58 : decode cX11_failsAt 58 = .ok (.aload_n 0, 1) := by decide +kernel
theorem dX11_failsAt_59 : decode cX11_failsAt 59 = .ok (.iload_n 1, 1) := by decide +kernel
theorem dX11_failsAt_60 : decode cX11_failsAt 60 = .ok (.iload 7, 2) := by decide +kernel
theorem dX11_failsAt_62 : decode cX11_failsAt 62 = .ok (.iload 8, 2) := by decide +kernel
theorem dX11_failsAt_64 : decode cX11_failsAt 64 = .ok (.iload 4, 2) := by decide +kernel
theorem dX11_failsAt_66 : decode cX11_failsAt 66 = .ok (.invokevirtual 383, 3) := by decide +kernel
theorem dX11_failsAt_69 : decode cX11_failsAt 69 = .ok (.lmul, 1) := by decide +kernel
theorem dX11_failsAt_70 : decode cX11_failsAt 70 = .ok (.ldc2_w 212, 3) := by decide +kernel
theorem dX11_failsAt_73 : decode cX11_failsAt 73 = .ok (.lrem, 1) := by decide +kernel
theorem dX11_failsAt_74 : decode cX11_failsAt 74 = .ok (.ladd, 1) := by decide +kernel
theorem dX11_failsAt_75 : decode cX11_failsAt 75 = .ok (.lstore 5, 2) := by decide +kernel
theorem dX11_failsAt_77 : decode cX11_failsAt 77 = .ok (.iinc 8 1, 3) := by decide +kernel
theorem dX11_failsAt_80 : decode cX11_failsAt 80 = .ok (.goto (-44), 3) := by decide +kernel
theorem dX11_failsAt_83 : decode cX11_failsAt 83 = .ok (.iinc 7 1, 3) := by decide +kernel
theorem dX11_failsAt_86 : decode cX11_failsAt 86 = .ok (.goto (-59), 3) := by decide +kernel
theorem dX11_failsAt_89 : decode cX11_failsAt 89 = .ok (.lload 5, 2) := by decide +kernel
theorem dX11_failsAt_91 : decode cX11_failsAt 91 = .ok (.ldc2_w 212, 3) := by decide +kernel
theorem dX11_failsAt_94 : decode cX11_failsAt 94 = .ok (.lrem, 1) := by decide +kernel
theorem dX11_failsAt_95 : decode cX11_failsAt 95 = .ok (.lconst 0, 1) := by decide +kernel
theorem dX11_failsAt_96 : decode cX11_failsAt 96 = .ok (.lcmp, 1) := by decide +kernel
theorem dX11_failsAt_97 : decode cX11_failsAt 97 = .ok (.ifCond .eq 6, 3) := by decide +kernel
theorem dX11_failsAt_103 : decode cX11_failsAt 103 = .ok (.iinc 4 1, 3) := by decide +kernel
theorem dX11_failsAt_106 : decode cX11_failsAt 106 = .ok (.goto (-103), 3) := by decide +kernel
theorem dX11_failsAt_100 : decode cX11_failsAt 100 = .ok (.iload 4, 2) := by decide +kernel
theorem dX11_failsAt_109 : decode cX11_failsAt 109 = .ok (.iconst (-1), 1) := by decide +kernel
theorem dX11_failsAt_102 : decode cX11_failsAt 102 = .ok (.ireturn, 1) := by decide +kernel
theorem dX11_failsAt_110 : decode cX11_failsAt 110 = .ok (.ireturn, 1) := by decide +kernel
theorem dX11_isGuess_0 : decode cX11_isGuess 0 = .ok (.aload_n 0, 1) := by decide +kernel
theorem dX11_isGuess_1 : decode cX11_isGuess 1 = .ok (.iload_n 1, 1) := by decide +kernel
theorem dX11_isGuess_2 : decode cX11_isGuess 2 = .ok (.invokevirtual 171, 3) := by decide +kernel
theorem dX11_isGuess_5 : decode cX11_isGuess 5 = .ok (.ifCond .eq 65, 3) := by decide +kernel
theorem dX11_isGuess_70 : decode cX11_isGuess 70 = .ok (.iconst 0, 1) := by decide +kernel
theorem dX11_isGuess_8 : decode cX11_isGuess 8 = .ok (.iload_n 2, 1) := by decide +kernel
theorem dX11_isGuess_9 : decode cX11_isGuess 9 = .ok (.i2l, 1) := by decide +kernel
theorem dX11_isGuess_10 : decode cX11_isGuess 10 = .ok (.lconst 0, 1) := by decide +kernel
theorem dX11_isGuess_11 : decode cX11_isGuess 11 = .ok (.ldc2_w 261, 3) := by decide +kernel
theorem dX11_isGuess_14 : decode cX11_isGuess 14 = .ok (.invokestatic 158, 3) := by decide +kernel
theorem dX11_isGuess_17 : decode cX11_isGuess 17 = .ok (.ifCond .eq 53, 3) := by decide +kernel
theorem dX11_isGuess_20 : decode cX11_isGuess 20 = .ok (.iload 4, 2) := by decide +kernel
theorem dX11_isGuess_22 : decode cX11_isGuess 22 = .ok (.i2l, 1) := by decide +kernel
theorem dX11_isGuess_23 : decode cX11_isGuess 23 = .ok (.lconst 1, 1) := by decide +kernel
theorem dX11_isGuess_24 : decode cX11_isGuess 24 = .ok (.iload_n 3, 1) := by decide +kernel
theorem dX11_isGuess_25 : decode cX11_isGuess 25 = .ok (.ifCond .ne 9, 3) := by decide +kernel
theorem dX11_isGuess_28 : decode cX11_isGuess 28 = .ok (.ldc2_w 261, 3) := by decide +kernel
theorem dX11_isGuess_31 : decode cX11_isGuess 31 = .ok (.goto 6, 3) := by decide +kernel
theorem dX11_isGuess_37 : decode cX11_isGuess 37 = .ok (.invokestatic 158, 3) := by decide +kernel
theorem dX11_isGuess_40 : decode cX11_isGuess 40 = .ok (.ifCond .eq 30, 3) := by decide +kernel
theorem dX11_isGuess_43 : decode cX11_isGuess 43 = .ok (.iload 5, 2) := by decide +kernel
theorem dX11_isGuess_45 : decode cX11_isGuess 45 = .ok (.i2l, 1) := by decide +kernel
theorem dX11_isGuess_46 : decode cX11_isGuess 46 = .ok (.lconst 0, 1) := by decide +kernel
theorem dX11_isGuess_47 : decode cX11_isGuess 47 = .ok (.iload_n 3, 1) := by decide +kernel
theorem dX11_isGuess_48 : decode cX11_isGuess 48 = .ok (.ifCond .ne 9, 3) := by decide +kernel
theorem dX11_isGuess_51 : decode cX11_isGuess 51 = .ok (.ldc2_w 261, 3) := by decide +kernel
theorem dX11_isGuess_54 : decode cX11_isGuess 54 = .ok (.goto 6, 3) := by decide +kernel
theorem dX11_isGuess_60 : decode cX11_isGuess 60 = .ok (.invokestatic 158, 3) := by decide +kernel
theorem dX11_isGuess_63 : decode cX11_isGuess 63 = .ok (.ifCond .eq 7, 3) := by decide +kernel
theorem dX11_isGuess_66 : decode cX11_isGuess 66 = .ok (.iconst 1, 1) := by decide +kernel
theorem dX11_isGuess_67 : decode cX11_isGuess 67 = .ok (.goto 4, 3) := by decide +kernel
theorem dX11_isGuess_71 : decode cX11_isGuess 71 = .ok (.ireturn, 1) := by decide +kernel
theorem dX11_numberOf_0 : decode cX11_numberOf 0 = .ok (.aload_n 0, 1) := by decide +kernel
theorem dX11_numberOf_1 : decode cX11_numberOf 1 = .ok (.iload_n 1, 1) := by decide +kernel
theorem dX11_numberOf_2 : decode cX11_numberOf 2 = .ok (.iload_n 2, 1) := by decide +kernel
theorem dX11_numberOf_3 : decode cX11_numberOf 3 = .ok (.iload_n 3, 1) := by decide +kernel
theorem dX11_numberOf_4 : decode cX11_numberOf 4 = .ok (.iload 4, 2) := by decide +kernel
theorem dX11_numberOf_6 : decode cX11_numberOf 6 = .ok (.iload 5, 2) := by decide +kernel
theorem dX11_numberOf_8 : decode cX11_numberOf 8 = .ok (.invokevirtual 396, 3) := by decide +kernel
theorem w_1936 : Cond.methodLink "QuarterWalksModel" 396 yX11_isGuess ∈ wAll := wI8 161 (by decide +kernel) (by decide +kernel)
theorem w_78 : Cond.selects yX11_isGuess.cls yX11_isGuess yX11_isGuess ∈ wAll := wIn 78 (by decide +kernel) (by decide +kernel)
theorem mk_X11_isGuess : mk yX11_isGuess 5 := ⟨by decide +kernel, w_110⟩
theorem w_1938 : Cond.instanceMethod yX11_isGuess ∈ wAll := wI8 163 (by decide +kernel) (by decide +kernel)
theorem w_1939 : Cond.code yX11_isGuess cX11_isGuess 6 (some .boolean) ∈ wAll := wI8 164 (by decide +kernel) (by decide +kernel)
theorem dX11_numberOf_11 : decode cX11_numberOf 11 = .ok (.ifCond .eq 29, 3) := by decide +kernel
theorem dX11_numberOf_40 : decode cX11_numberOf 40 = .ok (.ldc_w 286, 3) := by decide +kernel
theorem dX11_numberOf_14 : decode cX11_numberOf 14 = .ok (.iload 6, 2) := by decide +kernel
theorem dX11_numberOf_16 : decode cX11_numberOf 16 = .ok (.i2l, 1) := by decide +kernel
theorem dX11_numberOf_17 : decode cX11_numberOf 17 = .ok (.lconst 0, 1) := by decide +kernel
theorem dX11_numberOf_18 : decode cX11_numberOf 18 = .ok (.iload 4, 2) := by decide +kernel
theorem dX11_numberOf_20 : decode cX11_numberOf 20 = .ok (.i2l, 1) := by decide +kernel
theorem dX11_numberOf_21 : decode cX11_numberOf 21 = .ok (.invokestatic 158, 3) := by decide +kernel
theorem dX11_numberOf_24 : decode cX11_numberOf 24 = .ok (.ifCond .eq 16, 3) := by decide +kernel
theorem dX11_numberOf_27 : decode cX11_numberOf 27 = .ok (.iload 7, 2) := by decide +kernel
theorem dX11_numberOf_29 : decode cX11_numberOf 29 = .ok (.i2l, 1) := by decide +kernel
theorem dX11_numberOf_30 : decode cX11_numberOf 30 = .ok (.lconst 0, 1) := by decide +kernel
theorem dX11_numberOf_31 : decode cX11_numberOf 31 = .ok (.iload 5, 2) := by decide +kernel
theorem dX11_numberOf_33 : decode cX11_numberOf 33 = .ok (.i2l, 1) := by decide +kernel
theorem dX11_numberOf_34 : decode cX11_numberOf 34 = .ok (.invokestatic 158, 3) := by decide +kernel
theorem dX11_numberOf_37 : decode cX11_numberOf 37 = .ok (.ifCond .ne 7, 3) := by decide +kernel
theorem dX11_numberOf_44 : decode cX11_numberOf 44 = .ok (.aload_n 0, 1) := by decide +kernel
theorem dX11_numberOf_45 : decode cX11_numberOf 45 = .ok (.iload_n 1, 1) := by decide +kernel
theorem dX11_numberOf_46 : decode cX11_numberOf 46 = .ok (.iload_n 2, 1) := by decide +kernel
theorem dX11_numberOf_47 : decode cX11_numberOf 47 = .ok (.invokevirtual 400, 3) := by decide +kernel
theorem w_1942 : Cond.methodLink "QuarterWalksModel" 400 yX11_laysAll ∈ wAll := wI8 167 (by decide +kernel) (by decide +kernel)
theorem w_79 : Cond.selects yX11_laysAll.cls yX11_laysAll yX11_laysAll ∈ wAll := wIn 79 (by decide +kernel) (by decide +kernel)
theorem mk_X11_laysAll : mk yX11_laysAll 2 := ⟨by decide +kernel, w_110⟩
theorem w_1944 : Cond.instanceMethod yX11_laysAll ∈ wAll := wI8 169 (by decide +kernel) (by decide +kernel)
theorem w_1945 : Cond.code yX11_laysAll cX11_laysAll 3 none ∈ wAll := wI8 170 (by decide +kernel) (by decide +kernel)
theorem dX11_numberOf_50 : decode cX11_numberOf 50 = .ok (.aload_n 0, 1) := by decide +kernel
theorem dX11_numberOf_51 : decode cX11_numberOf 51 = .ok (.iload_n 3, 1) := by decide +kernel
theorem dX11_numberOf_52 : decode cX11_numberOf 52 = .ok (.iload 4, 2) := by decide +kernel
theorem dX11_numberOf_54 : decode cX11_numberOf 54 = .ok (.iload 5, 2) := by decide +kernel
theorem dX11_numberOf_56 : decode cX11_numberOf 56 = .ok (.invokevirtual 403, 3) := by decide +kernel
theorem w_1950 : Cond.methodLink "QuarterWalksModel" 403 yX11_guesses ∈ wAll := wI8 175 (by decide +kernel) (by decide +kernel)
theorem w_81 : Cond.selects yX11_guesses.cls yX11_guesses yX11_guesses ∈ wAll := wIn 81 (by decide +kernel) (by decide +kernel)
theorem mk_X11_guesses : mk yX11_guesses 3 := ⟨by decide +kernel, w_110⟩
theorem w_1952 : Cond.instanceMethod yX11_guesses ∈ wAll := wI8 177 (by decide +kernel) (by decide +kernel)
theorem w_1953 : Cond.code yX11_guesses cX11_guesses 7 (some .boolean) ∈ wAll := wI8 178 (by decide +kernel) (by decide +kernel)
theorem dX11_numberOf_59 : decode cX11_numberOf 59 = .ok (.ifCond .eq 22, 3) := by decide +kernel
theorem dX11_numberOf_81 : decode cX11_numberOf 81 = .ok (.iconst (-1), 1) := by decide +kernel
theorem dX11_numberOf_62 : decode cX11_numberOf 62 = .ok (.aload_n 0, 1) := by decide +kernel
theorem dX11_numberOf_63 : decode cX11_numberOf 63 = .ok (.getfield 63, 3) := by decide +kernel
theorem dX11_numberOf_66 : decode cX11_numberOf 66 = .ok (.iload 5, 2) := by decide +kernel
theorem dX11_numberOf_68 : decode cX11_numberOf 68 = .ok (.iconst 1, 1) := by decide +kernel
theorem dX11_numberOf_69 : decode cX11_numberOf 69 = .ok (.iadd, 1) := by decide +kernel
theorem dX11_numberOf_70 : decode cX11_numberOf 70 = .ok (.iload 6, 2) := by decide +kernel
theorem dX11_numberOf_72 : decode cX11_numberOf 72 = .ok (.imul, 1) := by decide +kernel
theorem dX11_numberOf_73 : decode cX11_numberOf 73 = .ok (.iload 7, 2) := by decide +kernel
theorem dX11_numberOf_75 : decode cX11_numberOf 75 = .ok (.iadd, 1) := by decide +kernel
theorem dX11_numberOf_76 : decode cX11_numberOf 76 = .ok (.laload, 1) := by decide +kernel
theorem dX11_numberOf_77 : decode cX11_numberOf 77 = .ok (.l2i, 1) := by decide +kernel
theorem dX11_numberOf_78 : decode cX11_numberOf 78 = .ok (.goto 4, 3) := by decide +kernel
theorem dX11_numberOf_43 : decode cX11_numberOf 43 = .ok (.ireturn, 1) := by decide +kernel
theorem dX11_numberOf_82 : decode cX11_numberOf 82 = .ok (.ireturn, 1) := by decide +kernel
theorem dX11_failOf_0 : decode cX11_failOf 0 = .ok (.aload_n 0, 1) := by decide +kernel
theorem dX11_failOf_1 : decode cX11_failOf 1 = .ok (.iload_n 1, 1) := by decide +kernel
theorem dX11_failOf_2 : decode cX11_failOf 2 = .ok (.iload_n 2, 1) := by decide +kernel
theorem dX11_failOf_3 : decode cX11_failOf 3 = .ok (.iload_n 3, 1) := by decide +kernel
theorem dX11_failOf_4 : decode cX11_failOf 4 = .ok (.iload 4, 2) := by decide +kernel
theorem dX11_failOf_6 : decode cX11_failOf 6 = .ok (.iload 5, 2) := by decide +kernel
theorem dX11_failOf_8 : decode cX11_failOf 8 = .ok (.invokevirtual 396, 3) := by decide +kernel
theorem dX11_failOf_11 : decode cX11_failOf 11 = .ok (.ifCond .ne 7, 3) := by decide +kernel
theorem dX11_failOf_18 : decode cX11_failOf 18 = .ok (.aload_n 0, 1) := by decide +kernel
theorem dX11_failOf_19 : decode cX11_failOf 19 = .ok (.iload_n 1, 1) := by decide +kernel
theorem dX11_failOf_20 : decode cX11_failOf 20 = .ok (.iload_n 2, 1) := by decide +kernel
theorem dX11_failOf_21 : decode cX11_failOf 21 = .ok (.invokevirtual 400, 3) := by decide +kernel
theorem dX11_failOf_24 : decode cX11_failOf 24 = .ok (.aload_n 0, 1) := by decide +kernel
theorem dX11_failOf_25 : decode cX11_failOf 25 = .ok (.iload_n 3, 1) := by decide +kernel
theorem dX11_failOf_26 : decode cX11_failOf 26 = .ok (.iload 4, 2) := by decide +kernel
theorem dX11_failOf_28 : decode cX11_failOf 28 = .ok (.iload 5, 2) := by decide +kernel
theorem dX11_failOf_30 : decode cX11_failOf 30 = .ok (.invokevirtual 403, 3) := by decide +kernel
theorem dX11_failOf_33 : decode cX11_failOf 33 = .ok (.ifCond .eq 15, 3) := by decide +kernel
theorem dX11_failOf_48 : decode cX11_failOf 48 = .ok (.bipush (-2), 2) := by decide +kernel
theorem dX11_failOf_36 : decode cX11_failOf 36 = .ok (.aload_n 0, 1) := by decide +kernel
theorem dX11_failOf_37 : decode cX11_failOf 37 = .ok (.iload_n 3, 1) := by decide +kernel
theorem dX11_failOf_38 : decode cX11_failOf 38 = .ok (.iload 4, 2) := by decide +kernel
theorem dX11_failOf_40 : decode cX11_failOf 40 = .ok (.iload 5, 2) := by decide +kernel
theorem dX11_failOf_42 : decode cX11_failOf 42 = .ok (.invokevirtual 406, 3) := by decide +kernel
theorem w_1981 : Cond.methodLink "QuarterWalksModel" 406 yX11_failsAt ∈ wAll := wI8 206 (by decide +kernel) (by decide +kernel)
theorem w_87 : Cond.selects yX11_failsAt.cls yX11_failsAt yX11_failsAt ∈ wAll := wIn 87 (by decide +kernel) (by decide +kernel)
theorem mk_X11_failsAt : mk yX11_failsAt 3 := ⟨by decide +kernel, w_110⟩
theorem w_1983 : Cond.instanceMethod yX11_failsAt ∈ wAll := wI8 208 (by decide +kernel) (by decide +kernel)
theorem w_1984 : Cond.code yX11_failsAt cX11_failsAt 9 (some .int) ∈ wAll := wI8 209 (by decide +kernel) (by decide +kernel)
theorem dX11_failOf_45 : decode cX11_failOf 45 = .ok (.goto 5, 3) := by decide +kernel
theorem dX11_failOf_14 : decode cX11_failOf 14 = .ok (.ldc_w 286, 3) := by decide +kernel
theorem dX11_failOf_50 : decode cX11_failOf 50 = .ok (.ireturn, 1) := by decide +kernel
theorem dX11_failOf_17 : decode cX11_failOf 17 = .ok (.ireturn, 1) := by decide +kernel
theorem dX11_entry_31 : decode cX11_entry 31 = .ok (.iload 4, 2) := by decide +kernel
theorem dX11_entry_33 : decode cX11_entry 33 = .ok (.iload_n 3, 1) := by decide +kernel
theorem dX11_entry_34 : decode cX11_entry 34 = .ok (.if_icmp .ge 7, 3) := by decide +kernel
theorem dX11_entry_41 : decode cX11_entry 41 = .ok (.aload_n 0, 1) := by decide +kernel
theorem dX11_entry_42 : decode cX11_entry 42 = .ok (.getfield 69, 3) := by decide +kernel
theorem dX11_entry_45 : decode cX11_entry 45 = .ok (.bipush 61, 2) := by decide +kernel
theorem dX11_entry_47 : decode cX11_entry 47 = .ok (.iload_n 2, 1) := by decide +kernel
theorem dX11_entry_48 : decode cX11_entry 48 = .ok (.imul, 1) := by decide +kernel
theorem dX11_entry_49 : decode cX11_entry 49 = .ok (.iload 4, 2) := by decide +kernel
theorem dX11_entry_51 : decode cX11_entry 51 = .ok (.iadd, 1) := by decide +kernel
theorem dX11_entry_52 : decode cX11_entry 52 = .ok (.iload_n 3, 1) := by decide +kernel
theorem dX11_entry_53 : decode cX11_entry 53 = .ok (.isub, 1) := by decide +kernel
theorem dX11_entry_54 : decode cX11_entry 54 = .ok (.laload, 1) := by decide +kernel
theorem dX11_entry_37 : decode cX11_entry 37 = .ok (.lconst 0, 1) := by decide +kernel
theorem dX11_entry_38 : decode cX11_entry 38 = .ok (.goto 17, 3) := by decide +kernel
theorem dX11_entry_55 : decode cX11_entry 55 = .ok (.lreturn, 1) := by decide +kernel
theorem dX11_failsAt_16 : decode cX11_failsAt 16 = .ok (.bipush 60, 2) := by decide +kernel
theorem dX11_isGuess_34 : decode cX11_isGuess 34 = .ok (.ldc2_w 389, 3) := by decide +kernel
theorem w_1940 : Cond.constantLong "QuarterWalksModel" 389 3 ∈ wAll := wI8 165 (by decide +kernel) (by decide +kernel)
theorem dX11_isGuess_57 : decode cX11_isGuess 57 = .ok (.ldc2_w 391, 3) := by decide +kernel
theorem w_1941 : Cond.constantLong "QuarterWalksModel" 391 6 ∈ wAll := wI8 166 (by decide +kernel) (by decide +kernel)
theorem dX11_recurrence_0 : decode cX11_recurrence 0 = .ok (.aload_n 0, 1) := by decide +kernel
theorem dX11_recurrence_1 : decode cX11_recurrence 1 = .ok (.iconst 0, 1) := by decide +kernel
theorem dX11_recurrence_2 : decode cX11_recurrence 2 = .ok (.putfield 75, 3) := by decide +kernel
theorem dX11_recurrence_5 : decode cX11_recurrence 5 = .ok (.aload_n 0, 1) := by decide +kernel
theorem dX11_recurrence_6 : decode cX11_recurrence 6 = .ok (.iload_n 1, 1) := by decide +kernel
theorem dX11_recurrence_7 : decode cX11_recurrence 7 = .ok (.iload_n 2, 1) := by decide +kernel
theorem dX11_recurrence_8 : decode cX11_recurrence 8 = .ok (.iconst 0, 1) := by decide +kernel
theorem dX11_recurrence_9 : decode cX11_recurrence 9 = .ok (.iload_n 3, 1) := by decide +kernel
theorem dX11_recurrence_10 : decode cX11_recurrence 10 = .ok (.iload 4, 2) := by decide +kernel
theorem dX11_recurrence_12 : decode cX11_recurrence 12 = .ok (.iload 5, 2) := by decide +kernel
theorem dX11_recurrence_14 : decode cX11_recurrence 14 = .ok (.iload 6, 2) := by decide +kernel
theorem dX11_recurrence_16 : decode cX11_recurrence 16 = .ok (.invokevirtual 409, 3) := by decide +kernel
theorem w_1932 : Cond.methodLink "QuarterWalksModel" 409 yX11_numberOf ∈ wAll := wI8 157 (by decide +kernel) (by decide +kernel)
theorem w_77 : Cond.selects yX11_numberOf.cls yX11_numberOf yX11_numberOf ∈ wAll := wIn 77 (by decide +kernel) (by decide +kernel)
theorem mk_X11_numberOf : mk yX11_numberOf 7 := ⟨by decide +kernel, w_110⟩
theorem w_1934 : Cond.instanceMethod yX11_numberOf ∈ wAll := wI8 159 (by decide +kernel) (by decide +kernel)
theorem w_1935 : Cond.code yX11_numberOf cX11_numberOf 8 (some .int) ∈ wAll := wI8 160 (by decide +kernel) (by decide +kernel)
theorem dX11_recurrence_19 : decode cX11_recurrence 19 = .ok (.ireturn, 1) := by decide +kernel
theorem dX11_equation_0 : decode cX11_equation 0 = .ok (.aload_n 0, 1) := by decide +kernel
theorem dX11_equation_1 : decode cX11_equation 1 = .ok (.iconst 0, 1) := by decide +kernel
theorem dX11_equation_2 : decode cX11_equation 2 = .ok (.putfield 75, 3) := by decide +kernel
theorem dX11_equation_5 : decode cX11_equation 5 = .ok (.aload_n 0, 1) := by decide +kernel
theorem dX11_equation_6 : decode cX11_equation 6 = .ok (.iload_n 1, 1) := by decide +kernel
theorem dX11_equation_7 : decode cX11_equation 7 = .ok (.iload_n 2, 1) := by decide +kernel
theorem dX11_equation_8 : decode cX11_equation 8 = .ok (.iconst 1, 1) := by decide +kernel
theorem dX11_equation_9 : decode cX11_equation 9 = .ok (.iload_n 3, 1) := by decide +kernel
theorem dX11_equation_10 : decode cX11_equation 10 = .ok (.iload 4, 2) := by decide +kernel
theorem dX11_equation_12 : decode cX11_equation 12 = .ok (.iload 5, 2) := by decide +kernel
theorem dX11_equation_14 : decode cX11_equation 14 = .ok (.iload 6, 2) := by decide +kernel
theorem dX11_equation_16 : decode cX11_equation 16 = .ok (.invokevirtual 409, 3) := by decide +kernel
theorem dX11_equation_19 : decode cX11_equation 19 = .ok (.ireturn, 1) := by decide +kernel
theorem dX11_fails__0 : decode cX11_fails_ 0 = .ok (.aload_n 0, 1) := by decide +kernel
theorem dX11_fails__1 : decode cX11_fails_ 1 = .ok (.iconst 0, 1) := by decide +kernel
theorem dX11_fails__2 : decode cX11_fails_ 2 = .ok (.putfield 75, 3) := by decide +kernel
theorem dX11_fails__5 : decode cX11_fails_ 5 = .ok (.aload_n 0, 1) := by decide +kernel
theorem dX11_fails__6 : decode cX11_fails_ 6 = .ok (.iload_n 1, 1) := by decide +kernel
theorem dX11_fails__7 : decode cX11_fails_ 7 = .ok (.iload_n 2, 1) := by decide +kernel
theorem dX11_fails__8 : decode cX11_fails_ 8 = .ok (.iconst 0, 1) := by decide +kernel
theorem dX11_fails__9 : decode cX11_fails_ 9 = .ok (.iload_n 3, 1) := by decide +kernel
theorem dX11_fails__10 : decode cX11_fails_ 10 = .ok (.iload 4, 2) := by decide +kernel
theorem dX11_fails__12 : decode cX11_fails_ 12 = .ok (.invokevirtual 413, 3) := by decide +kernel
theorem w_1977 : Cond.methodLink "QuarterWalksModel" 413 yX11_failOf ∈ wAll := wI8 202 (by decide +kernel) (by decide +kernel)
theorem w_86 : Cond.selects yX11_failOf.cls yX11_failOf yX11_failOf ∈ wAll := wIn 86 (by decide +kernel) (by decide +kernel)
theorem mk_X11_failOf : mk yX11_failOf 5 := ⟨by decide +kernel, w_110⟩
theorem w_1979 : Cond.instanceMethod yX11_failOf ∈ wAll := wI8 204 (by decide +kernel) (by decide +kernel)
theorem w_1980 : Cond.code yX11_failOf cX11_failOf 6 (some .int) ∈ wAll := wI8 205 (by decide +kernel) (by decide +kernel)
theorem dX11_fails__15 : decode cX11_fails_ 15 = .ok (.ireturn, 1) := by decide +kernel
theorem dX11_breaks_0 : decode cX11_breaks 0 = .ok (.aload_n 0, 1) := by decide +kernel
theorem dX11_breaks_1 : decode cX11_breaks 1 = .ok (.iconst 0, 1) := by decide +kernel
theorem dX11_breaks_2 : decode cX11_breaks 2 = .ok (.putfield 75, 3) := by decide +kernel
theorem dX11_breaks_5 : decode cX11_breaks 5 = .ok (.aload_n 0, 1) := by decide +kernel
theorem dX11_breaks_6 : decode cX11_breaks 6 = .ok (.iload_n 1, 1) := by decide +kernel
theorem dX11_breaks_7 : decode cX11_breaks 7 = .ok (.iload_n 2, 1) := by decide +kernel
theorem dX11_breaks_8 : decode cX11_breaks 8 = .ok (.iconst 1, 1) := by decide +kernel
theorem dX11_breaks_9 : decode cX11_breaks 9 = .ok (.iload_n 3, 1) := by decide +kernel
theorem dX11_breaks_10 : decode cX11_breaks 10 = .ok (.iload 4, 2) := by decide +kernel
theorem dX11_breaks_12 : decode cX11_breaks 12 = .ok (.invokevirtual 413, 3) := by decide +kernel
theorem dX11_breaks_15 : decode cX11_breaks 15 = .ok (.ireturn, 1) := by decide +kernel
theorem dX11_least_0 : decode cX11_least 0 = .ok (.aload_n 0, 1) := by decide +kernel
theorem dX11_least_1 : decode cX11_least 1 = .ok (.iconst 0, 1) := by decide +kernel
theorem dX11_least_2 : decode cX11_least 2 = .ok (.putfield 75, 3) := by decide +kernel
theorem dX11_least_5 : decode cX11_least 5 = .ok (.aload_n 0, 1) := by decide +kernel
theorem dX11_least_6 : decode cX11_least 6 = .ok (.iload_n 1, 1) := by decide +kernel
theorem dX11_least_7 : decode cX11_least 7 = .ok (.invokevirtual 171, 3) := by decide +kernel
theorem dX11_least_10 : decode cX11_least 10 = .ok (.ifCond .eq 25, 3) := by decide +kernel
theorem dX11_least_35 : decode cX11_least 35 = .ok (.ldc_w 286, 3) := by decide +kernel
theorem dX11_least_13 : decode cX11_least 13 = .ok (.iload_n 2, 1) := by decide +kernel
theorem dX11_least_14 : decode cX11_least 14 = .ok (.i2l, 1) := by decide +kernel
theorem dX11_least_15 : decode cX11_least 15 = .ok (.lconst 0, 1) := by decide +kernel
theorem dX11_least_16 : decode cX11_least 16 = .ok (.ldc2_w 261, 3) := by decide +kernel
theorem dX11_least_19 : decode cX11_least 19 = .ok (.invokestatic 158, 3) := by decide +kernel
theorem dX11_least_22 : decode cX11_least 22 = .ok (.ifCond .eq 13, 3) := by decide +kernel
theorem dX11_least_25 : decode cX11_least 25 = .ok (.iload_n 3, 1) := by decide +kernel
theorem dX11_least_26 : decode cX11_least 26 = .ok (.i2l, 1) := by decide +kernel
theorem dX11_least_27 : decode cX11_least 27 = .ok (.lconst 0, 1) := by decide +kernel
theorem dX11_least_28 : decode cX11_least 28 = .ok (.lconst 1, 1) := by decide +kernel
theorem dX11_least_29 : decode cX11_least 29 = .ok (.invokestatic 158, 3) := by decide +kernel
theorem dX11_least_32 : decode cX11_least 32 = .ok (.ifCond .ne 7, 3) := by decide +kernel
theorem dX11_least_39 : decode cX11_least 39 = .ok (.aload_n 0, 1) := by decide +kernel
theorem dX11_least_40 : decode cX11_least 40 = .ok (.iload_n 1, 1) := by decide +kernel
theorem dX11_least_41 : decode cX11_least 41 = .ok (.iload_n 2, 1) := by decide +kernel
theorem dX11_least_42 : decode cX11_least 42 = .ok (.invokevirtual 400, 3) := by decide +kernel
theorem dX11_least_45 : decode cX11_least 45 = .ok (.iconst (-1), 1) := by decide +kernel
theorem dX11_least_46 : decode cX11_least 46 = .ok (.istore 4, 2) := by decide +kernel
theorem dX11_least_48 : decode cX11_least 48 = .ok (.bipush 29, 2) := by decide +kernel
theorem dX11_least_50 : decode cX11_least 50 = .ok (.istore 5, 2) := by decide +kernel
theorem dX11_least_52 : decode cX11_least 52 = .ok (.iconst 1, 1) := by decide +kernel
theorem dX11_least_53 : decode cX11_least 53 = .ok (.istore 6, 2) := by decide +kernel
theorem dX11_least_55 : decode cX11_least 55 = .ok (.iload 6, 2) := by decide +kernel
theorem dX11_least_57 : decode cX11_least 57 = .ok (.iload_n 3, 1) := by decide +kernel
theorem dX11_least_58 : decode cX11_least 58 = .ok (.ifCond .ne 7, 3) := by decide +kernel
theorem dX11_least_61 : decode cX11_least 61 = .ok (.iconst 4, 1) := by decide +kernel
theorem dX11_least_62 : decode cX11_least 62 = .ok (.goto 4, 3) := by decide +kernel
theorem dX11_least_66 : decode cX11_least 66 = .ok (.if_icmp .gt 93, 3) := by decide +kernel
theorem dX11_least_69 : decode cX11_least 69 = .ok (.iconst 0, 1) := by decide +kernel
theorem dX11_least_70 : decode cX11_least 70 = .ok (.istore 7, 2) := by decide +kernel
theorem dX11_least_72 : decode cX11_least 72 = .ok (.iload 7, 2) := by decide +kernel
theorem dX11_least_74 : decode cX11_least 74 = .ok (.iload_n 3, 1) := by decide +kernel
theorem dX11_least_75 : decode cX11_least 75 = .ok (.ifCond .ne 7, 3) := by decide +kernel
theorem dX11_least_78 : decode cX11_least 78 = .ok (.iconst 4, 1) := by decide +kernel
theorem dX11_least_79 : decode cX11_least 79 = .ok (.goto 5, 3) := by decide +kernel
theorem dX11_least_84 : decode cX11_least 84 = .ok (.if_icmp .gt 69, 3) := by decide +kernel
theorem dX11_least_87 : decode cX11_least 87 = .ok (.iload 6, 2) := by decide +kernel
theorem dX11_least_89 : decode cX11_least 89 = .ok (.iconst 1, 1) := by decide +kernel
theorem dX11_least_90 : decode cX11_least 90 = .ok (.iadd, 1) := by decide +kernel
theorem dX11_least_91 : decode cX11_least 91 = .ok (.iload 7, 2) := by decide +kernel
theorem dX11_least_93 : decode cX11_least 93 = .ok (.iconst 1, 1) := by decide +kernel
theorem dX11_least_94 : decode cX11_least 94 = .ok (.iadd, 1) := by decide +kernel
theorem dX11_least_95 : decode cX11_least 95 = .ok (.imul, 1) := by decide +kernel
theorem dX11_least_96 : decode cX11_least 96 = .ok (.istore 8, 2) := by decide +kernel
theorem dX11_least_98 : decode cX11_least 98 = .ok (.iload 8, 2) := by decide +kernel
theorem dX11_least_100 : decode cX11_least 100 = .ok (.iload 5, 2) := by decide +kernel
theorem dX11_least_102 : decode cX11_least 102 = .ok (.if_icmp .ge 45, 3) := by decide +kernel
theorem dX11_least_105 : decode cX11_least 105 = .ok (.aload_n 0, 1) := by decide +kernel
theorem dX11_least_106 : decode cX11_least 106 = .ok (.iload_n 3, 1) := by decide +kernel
theorem dX11_least_107 : decode cX11_least 107 = .ok (.iload 6, 2) := by decide +kernel
theorem dX11_least_109 : decode cX11_least 109 = .ok (.iload 7, 2) := by decide +kernel
theorem dX11_least_111 : decode cX11_least 111 = .ok (.invokevirtual 403, 3) := by decide +kernel
theorem dX11_least_114 : decode cX11_least 114 = .ok (.ifCond .eq 33, 3) := by decide +kernel
theorem dX11_least_147 : decode cX11_least 147 = .ok (.iinc 7 1, 3) := by decide +kernel
theorem dX11_least_150 : decode cX11_least 150 = .ok (.goto (-78), 3) := by decide +kernel
theorem dX11_least_117 : decode cX11_least 117 = .ok (.aload_n 0, 1) := by decide +kernel
theorem dX11_least_118 : decode cX11_least 118 = .ok (.iload_n 3, 1) := by decide +kernel
theorem dX11_least_119 : decode cX11_least 119 = .ok (.iload 6, 2) := by decide +kernel
theorem dX11_least_121 : decode cX11_least 121 = .ok (.iload 7, 2) := by decide +kernel
theorem dX11_least_123 : decode cX11_least 123 = .ok (.invokevirtual 406, 3) := by decide +kernel
theorem dX11_least_126 : decode cX11_least 126 = .ok (.iconst (-1), 1) := by decide +kernel
theorem dX11_least_127 : decode cX11_least 127 = .ok (.if_icmp .eq 6, 3) := by decide +kernel
theorem dX11_least_133 : decode cX11_least 133 = .ok (.bipush 10, 2) := by decide +kernel
theorem dX11_least_135 : decode cX11_least 135 = .ok (.iload 6, 2) := by decide +kernel
theorem dX11_least_137 : decode cX11_least 137 = .ok (.imul, 1) := by decide +kernel
theorem dX11_least_138 : decode cX11_least 138 = .ok (.iload 7, 2) := by decide +kernel
theorem dX11_least_140 : decode cX11_least 140 = .ok (.iadd, 1) := by decide +kernel
theorem dX11_least_141 : decode cX11_least 141 = .ok (.istore 4, 2) := by decide +kernel
theorem dX11_least_143 : decode cX11_least 143 = .ok (.iload 8, 2) := by decide +kernel
theorem dX11_least_145 : decode cX11_least 145 = .ok (.istore 5, 2) := by decide +kernel
theorem dX11_least_130 : decode cX11_least 130 = .ok (.goto 17, 3) := by decide +kernel
theorem dX11_least_153 : decode cX11_least 153 = .ok (.iinc 6 1, 3) := by decide +kernel
theorem dX11_least_156 : decode cX11_least 156 = .ok (.goto (-101), 3) := by decide +kernel
theorem dX11_least_159 : decode cX11_least 159 = .ok (.iload 4, 2) := by decide +kernel
theorem dX11_least_161 : decode cX11_least 161 = .ok (.ireturn, 1) := by decide +kernel
theorem dX11_least_38 : decode cX11_least 38 = .ok (.ireturn, 1) := by decide +kernel
theorem dX11_least_65 : decode cX11_least 65 = .ok (.iconst 3, 1) := by decide +kernel
theorem dX11_least_82 : decode cX11_least 82 = .ok (.bipush 6, 2) := by decide +kernel
theorem dX11_status_0 : decode cX11_status 0 = .ok (.aload_n 0, 1) := by decide +kernel
theorem dX11_status_1 : decode cX11_status 1 = .ok (.iconst 0, 1) := by decide +kernel
theorem dX11_status_2 : decode cX11_status 2 = .ok (.putfield 75, 3) := by decide +kernel
theorem dX11_status_5 : decode cX11_status 5 = .ok (.iload_n 1, 1) := by decide +kernel
theorem dX11_status_6 : decode cX11_status 6 = .ok (.i2l, 1) := by decide +kernel
theorem dX11_status_7 : decode cX11_status 7 = .ok (.lconst 0, 1) := by decide +kernel
theorem dX11_status_8 : decode cX11_status 8 = .ok (.ldc2_w 389, 3) := by decide +kernel
theorem dX11_status_11 : decode cX11_status 11 = .ok (.invokestatic 158, 3) := by decide +kernel
theorem dX11_status_14 : decode cX11_status 14 = .ok (.ifCond .eq 12, 3) := by decide +kernel
theorem dX11_status_26 : decode cX11_status 26 = .ok (.iconst (-1), 1) := by decide +kernel
theorem dX11_status_17 : decode cX11_status 17 = .ok (.aload_n 0, 1) := by decide +kernel
theorem dX11_status_18 : decode cX11_status 18 = .ok (.getfield 26, 3) := by decide +kernel
theorem w_1442 : Cond.fieldLink "QuarterWalksModel" 26 "QuarterWalksModel" "refused" "[I" ∈ wAll := wI6 147 (by decide +kernel) (by decide +kernel)
theorem fl_X11_26 : fl RX11 26 12 9 := ⟨RX11, TX11, 32, rfl, inA_X11, by decide, w_1442⟩
theorem dX11_status_21 : decode cX11_status 21 = .ok (.iload_n 1, 1) := by decide +kernel
theorem dX11_status_22 : decode cX11_status 22 = .ok (.iaload, 1) := by decide +kernel
theorem dX11_status_23 : decode cX11_status 23 = .ok (.goto 4, 3) := by decide +kernel
theorem dX11_status_27 : decode cX11_status 27 = .ok (.ireturn, 1) := by decide +kernel
theorem dX11_numberFor_0 : decode cX11_numberFor 0 = .ok (.iload_n 2, 1) := by decide +kernel
theorem dX11_numberFor_1 : decode cX11_numberFor 1 = .ok (.ifCond .ne 11, 3) := by decide +kernel
theorem dX11_numberFor_12 : decode cX11_numberFor 12 = .ok (.iload_n 2, 1) := by decide +kernel
theorem dX11_numberFor_13 : decode cX11_numberFor 13 = .ok (.iconst 1, 1) := by decide +kernel
theorem dX11_numberFor_14 : decode cX11_numberFor 14 = .ok (.if_icmp .ne 11, 3) := by decide +kernel
theorem dX11_numberFor_25 : decode cX11_numberFor 25 = .ok (.aload_n 0, 1) := by decide +kernel
theorem dX11_numberFor_26 : decode cX11_numberFor 26 = .ok (.iload_n 1, 1) := by decide +kernel
theorem dX11_numberFor_27 : decode cX11_numberFor 27 = .ok (.invokevirtual 358, 3) := by decide +kernel
theorem dX11_numberFor_17 : decode cX11_numberFor 17 = .ok (.aload_n 0, 1) := by decide +kernel
theorem dX11_numberFor_18 : decode cX11_numberFor 18 = .ok (.iload_n 1, 1) := by decide +kernel
theorem dX11_numberFor_19 : decode cX11_numberFor 19 = .ok (.invokevirtual 183, 3) := by decide +kernel
theorem w_1649 : Cond.methodLink "QuarterWalksModel" 183 yX11_worthOf ∈ wAll := wI7 114 (by decide +kernel) (by decide +kernel)
theorem w_53 : Cond.selects yX11_worthOf.cls yX11_worthOf yX11_worthOf ∈ wAll := wIn 53 (by decide +kernel) (by decide +kernel)
theorem mk_X11_worthOf : mk yX11_worthOf 1 := ⟨by decide +kernel, w_110⟩
theorem w_1651 : Cond.instanceMethod yX11_worthOf ∈ wAll := wI7 116 (by decide +kernel) (by decide +kernel)
theorem w_1652 : Cond.code yX11_worthOf cX11_worthOf 4 (some .int) ∈ wAll := wI7 117 (by decide +kernel) (by decide +kernel)
theorem dX11_numberFor_22 : decode cX11_numberFor 22 = .ok (.goto 8, 3) := by decide +kernel
theorem dX11_numberFor_4 : decode cX11_numberFor 4 = .ok (.aload_n 0, 1) := by decide +kernel
theorem dX11_numberFor_5 : decode cX11_numberFor 5 = .ok (.iload_n 1, 1) := by decide +kernel
theorem dX11_numberFor_6 : decode cX11_numberFor 6 = .ok (.invokevirtual 188, 3) := by decide +kernel
theorem w_1658 : Cond.methodLink "QuarterWalksModel" 188 yX11_stepsOf ∈ wAll := wI7 123 (by decide +kernel) (by decide +kernel)
theorem w_54 : Cond.selects yX11_stepsOf.cls yX11_stepsOf yX11_stepsOf ∈ wAll := wIn 54 (by decide +kernel) (by decide +kernel)
theorem mk_X11_stepsOf : mk yX11_stepsOf 1 := ⟨by decide +kernel, w_110⟩
theorem w_1660 : Cond.instanceMethod yX11_stepsOf ∈ wAll := wI7 125 (by decide +kernel) (by decide +kernel)
theorem w_1661 : Cond.code yX11_stepsOf cX11_stepsOf 4 (some .int) ∈ wAll := wI7 126 (by decide +kernel) (by decide +kernel)
theorem dX11_numberFor_9 : decode cX11_numberFor 9 = .ok (.goto 21, 3) := by decide +kernel
theorem dX11_numberFor_30 : decode cX11_numberFor 30 = .ok (.ireturn, 1) := by decide +kernel
theorem dX11_mostBy_0 : decode cX11_mostBy 0 = .ok (.iconst 0, 1) := by decide +kernel
theorem dX11_mostBy_1 : decode cX11_mostBy 1 = .ok (.istore_n 2, 1) := by decide +kernel
theorem dX11_mostBy_2 : decode cX11_mostBy 2 = .ok (.aload_n 0, 1) := by decide +kernel
theorem dX11_mostBy_3 : decode cX11_mostBy 3 = .ok (.iconst 0, 1) := by decide +kernel
theorem dX11_mostBy_4 : decode cX11_mostBy 4 = .ok (.iload_n 1, 1) := by decide +kernel
theorem dX11_mostBy_5 : decode cX11_mostBy 5 = .ok (.invokevirtual 441, 3) := by decide +kernel
theorem w_2050 : Cond.methodLink "QuarterWalksModel" 441 yX11_numberFor ∈ wAll := wI9 35 (by decide +kernel) (by decide +kernel)
theorem w_94 : Cond.selects yX11_numberFor.cls yX11_numberFor yX11_numberFor ∈ wAll := wIn 94 (by decide +kernel) (by decide +kernel)
theorem mk_X11_numberFor : mk yX11_numberFor 2 := ⟨by decide +kernel, w_110⟩
theorem w_2052 : Cond.instanceMethod yX11_numberFor ∈ wAll := wI9 37 (by decide +kernel) (by decide +kernel)
theorem w_2053 : Cond.code yX11_numberFor cX11_numberFor 3 (some .int) ∈ wAll := wI9 38 (by decide +kernel) (by decide +kernel)
theorem dX11_mostBy_8 : decode cX11_mostBy 8 = .ok (.istore_n 3, 1) := by decide +kernel
theorem dX11_mostBy_9 : decode cX11_mostBy 9 = .ok (.iconst 1, 1) := by decide +kernel
theorem dX11_mostBy_10 : decode cX11_mostBy 10 = .ok (.istore 4, 2) := by decide +kernel
theorem dX11_mostBy_12 : decode cX11_mostBy 12 = .ok (.iload 4, 2) := by decide +kernel
theorem dX11_mostBy_14 : decode cX11_mostBy 14 = .ok (.aload_n 0, 1) := by decide +kernel
theorem dX11_mostBy_15 : decode cX11_mostBy 15 = .ok (.getfield 17, 3) := by decide +kernel
theorem dX11_mostBy_18 : decode cX11_mostBy 18 = .ok (.bipush 80, 2) := by decide +kernel
theorem dX11_mostBy_20 : decode cX11_mostBy 20 = .ok (.iaload, 1) := by decide +kernel
theorem dX11_mostBy_21 : decode cX11_mostBy 21 = .ok (.if_icmp .ge 33, 3) := by decide +kernel
theorem dX11_mostBy_54 : decode cX11_mostBy 54 = .ok (.iload_n 2, 1) := by decide +kernel
theorem dX11_mostBy_24 : decode cX11_mostBy 24 = .ok (.aload_n 0, 1) := by decide +kernel
theorem dX11_mostBy_25 : decode cX11_mostBy 25 = .ok (.iload 4, 2) := by decide +kernel
theorem dX11_mostBy_27 : decode cX11_mostBy 27 = .ok (.iload_n 1, 1) := by decide +kernel
theorem dX11_mostBy_28 : decode cX11_mostBy 28 = .ok (.invokevirtual 441, 3) := by decide +kernel
theorem dX11_mostBy_31 : decode cX11_mostBy 31 = .ok (.istore 5, 2) := by decide +kernel
theorem dX11_mostBy_33 : decode cX11_mostBy 33 = .ok (.iload 5, 2) := by decide +kernel
theorem dX11_mostBy_35 : decode cX11_mostBy 35 = .ok (.iload_n 3, 1) := by decide +kernel
theorem dX11_mostBy_36 : decode cX11_mostBy 36 = .ok (.if_icmp .gt 6, 3) := by decide +kernel
theorem dX11_mostBy_42 : decode cX11_mostBy 42 = .ok (.iload 4, 2) := by decide +kernel
theorem dX11_mostBy_44 : decode cX11_mostBy 44 = .ok (.istore_n 2, 1) := by decide +kernel
theorem dX11_mostBy_45 : decode cX11_mostBy 45 = .ok (.iload 5, 2) := by decide +kernel
theorem dX11_mostBy_47 : decode cX11_mostBy 47 = .ok (.istore_n 3, 1) := by decide +kernel
theorem dX11_mostBy_48 : decode cX11_mostBy 48 = .ok (.iinc 4 1, 3) := by decide +kernel
theorem dX11_mostBy_51 : decode cX11_mostBy 51 = .ok (.goto (-39), 3) := by decide +kernel
theorem dX11_mostBy_39 : decode cX11_mostBy 39 = .ok (.goto 9, 3) := by decide +kernel
theorem dX11_mostBy_55 : decode cX11_mostBy 55 = .ok (.ireturn, 1) := by decide +kernel
theorem dX11_areOne_0 : decode cX11_areOne 0 = .ok (.iconst 0, 1) := by decide +kernel
theorem dX11_areOne_1 : decode cX11_areOne 1 = .ok (.istore_n 3, 1) := by decide +kernel
theorem dX11_areOne_2 : decode cX11_areOne 2 = .ok (.iload_n 3, 1) := by decide +kernel
theorem dX11_areOne_3 : decode cX11_areOne 3 = .ok (.bipush 10, 2) := by decide +kernel
theorem dX11_areOne_5 : decode cX11_areOne 5 = .ok (.if_icmp .ge 26, 3) := by decide +kernel
theorem dX11_areOne_8 : decode cX11_areOne 8 = .ok (.aload_n 0, 1) := by decide +kernel
theorem dX11_areOne_9 : decode cX11_areOne 9 = .ok (.iload_n 1, 1) := by decide +kernel
theorem dX11_areOne_10 : decode cX11_areOne 10 = .ok (.iload_n 3, 1) := by decide +kernel
theorem dX11_areOne_11 : decode cX11_areOne 11 = .ok (.invokevirtual 175, 3) := by decide +kernel
theorem dX11_areOne_14 : decode cX11_areOne 14 = .ok (.aload_n 0, 1) := by decide +kernel
theorem dX11_areOne_15 : decode cX11_areOne 15 = .ok (.iload_n 2, 1) := by decide +kernel
theorem dX11_areOne_16 : decode cX11_areOne 16 = .ok (.iload_n 3, 1) := by decide +kernel
theorem dX11_areOne_17 : decode cX11_areOne 17 = .ok (.invokevirtual 175, 3) := by decide +kernel
theorem dX11_areOne_20 : decode cX11_areOne 20 = .ok (.if_icmp .eq 5, 3) := by decide +kernel
theorem dX11_areOne_25 : decode cX11_areOne 25 = .ok (.iinc 3 1, 3) := by decide +kernel
theorem dX11_areOne_28 : decode cX11_areOne 28 = .ok (.goto (-26), 3) := by decide +kernel
theorem dX11_areOne_23 : decode cX11_areOne 23 = .ok (.iconst 0, 1) := by decide +kernel
theorem dX11_areOne_31 : decode cX11_areOne 31 = .ok (.iconst 1, 1) := by decide +kernel
theorem dX11_areOne_32 : decode cX11_areOne 32 = .ok (.ireturn, 1) := by decide +kernel
theorem dX11_areOne_24 : decode cX11_areOne 24 = .ok (.ireturn, 1) := by decide +kernel
theorem dX11_unlike_0 : decode cX11_unlike 0 = .ok (.iconst 0, 1) := by decide +kernel
theorem dX11_unlike_1 : decode cX11_unlike 1 = .ok (.istore_n 1, 1) := by decide +kernel
theorem dX11_unlike_2 : decode cX11_unlike 2 = .ok (.iconst 0, 1) := by decide +kernel
theorem dX11_unlike_3 : decode cX11_unlike 3 = .ok (.istore_n 2, 1) := by decide +kernel
theorem dX11_unlike_4 : decode cX11_unlike 4 = .ok (.iload_n 2, 1) := by decide +kernel
theorem dX11_unlike_5 : decode cX11_unlike 5 = .ok (.aload_n 0, 1) := by decide +kernel
theorem dX11_unlike_6 : decode cX11_unlike 6 = .ok (.getfield 17, 3) := by decide +kernel
theorem dX11_unlike_9 : decode cX11_unlike 9 = .ok (.bipush 80, 2) := by decide +kernel
theorem dX11_unlike_11 : decode cX11_unlike 11 = .ok (.iaload, 1) := by decide +kernel
theorem dX11_unlike_12 : decode cX11_unlike 12 = .ok (.if_icmp .ge 56, 3) := by decide +kernel
theorem dX11_unlike_68 : decode cX11_unlike 68 = .ok (.iload_n 1, 1) := by decide +kernel
theorem dX11_unlike_15 : decode cX11_unlike 15 = .ok (.iconst 1, 1) := by decide +kernel
theorem dX11_unlike_16 : decode cX11_unlike 16 = .ok (.istore_n 3, 1) := by decide +kernel
theorem dX11_unlike_17 : decode cX11_unlike 17 = .ok (.iconst 0, 1) := by decide +kernel
theorem dX11_unlike_18 : decode cX11_unlike 18 = .ok (.istore 4, 2) := by decide +kernel
theorem dX11_unlike_20 : decode cX11_unlike 20 = .ok (.iload 4, 2) := by decide +kernel
theorem dX11_unlike_22 : decode cX11_unlike 22 = .ok (.iload_n 2, 1) := by decide +kernel
theorem dX11_unlike_23 : decode cX11_unlike 23 = .ok (.if_icmp .ge 27, 3) := by decide +kernel
theorem dX11_unlike_50 : decode cX11_unlike 50 = .ok (.iload_n 1, 1) := by decide +kernel
theorem dX11_unlike_51 : decode cX11_unlike 51 = .ok (.iload_n 3, 1) := by decide +kernel
theorem dX11_unlike_52 : decode cX11_unlike 52 = .ok (.ifCond .eq 7, 3) := by decide +kernel
theorem dX11_unlike_55 : decode cX11_unlike 55 = .ok (.iconst 1, 1) := by decide +kernel
theorem dX11_unlike_56 : decode cX11_unlike 56 = .ok (.goto 4, 3) := by decide +kernel
theorem dX11_unlike_60 : decode cX11_unlike 60 = .ok (.iadd, 1) := by decide +kernel
theorem dX11_unlike_61 : decode cX11_unlike 61 = .ok (.istore_n 1, 1) := by decide +kernel
theorem dX11_unlike_62 : decode cX11_unlike 62 = .ok (.iinc 2 1, 3) := by decide +kernel
theorem dX11_unlike_65 : decode cX11_unlike 65 = .ok (.goto (-61), 3) := by decide +kernel
theorem dX11_unlike_26 : decode cX11_unlike 26 = .ok (.iload_n 3, 1) := by decide +kernel
theorem dX11_unlike_27 : decode cX11_unlike 27 = .ok (.aload_n 0, 1) := by decide +kernel
theorem dX11_unlike_28 : decode cX11_unlike 28 = .ok (.iload 4, 2) := by decide +kernel
theorem dX11_unlike_30 : decode cX11_unlike 30 = .ok (.iload_n 2, 1) := by decide +kernel
theorem dX11_unlike_31 : decode cX11_unlike 31 = .ok (.invokevirtual 444, 3) := by decide +kernel
theorem w_2042 : Cond.methodLink "QuarterWalksModel" 444 yX11_areOne ∈ wAll := wI9 27 (by decide +kernel) (by decide +kernel)
theorem w_92 : Cond.selects yX11_areOne.cls yX11_areOne yX11_areOne ∈ wAll := wIn 92 (by decide +kernel) (by decide +kernel)
theorem mk_X11_areOne : mk yX11_areOne 2 := ⟨by decide +kernel, w_110⟩
theorem w_2044 : Cond.instanceMethod yX11_areOne ∈ wAll := wI9 29 (by decide +kernel) (by decide +kernel)
theorem w_2045 : Cond.code yX11_areOne cX11_areOne 4 (some .boolean) ∈ wAll := wI9 30 (by decide +kernel) (by decide +kernel)
theorem dX11_unlike_34 : decode cX11_unlike 34 = .ok (.ifCond .ne 7, 3) := by decide +kernel
theorem dX11_unlike_41 : decode cX11_unlike 41 = .ok (.iconst 0, 1) := by decide +kernel
theorem dX11_unlike_42 : decode cX11_unlike 42 = .ok (.iand, 1) := by decide +kernel
theorem dX11_unlike_43 : decode cX11_unlike 43 = .ok (.istore_n 3, 1) := by decide +kernel
theorem dX11_unlike_44 : decode cX11_unlike 44 = .ok (.iinc 4 1, 3) := by decide +kernel
theorem dX11_unlike_47 : decode cX11_unlike 47 = .ok (.goto (-27), 3) := by decide +kernel
theorem dX11_unlike_37 : decode cX11_unlike 37 = .ok (.iconst 1, 1) := by decide +kernel
theorem dX11_unlike_38 : decode cX11_unlike 38 = .ok (.goto 4, 3) := by decide +kernel
theorem dX11_unlike_59 : decode cX11_unlike 59 = .ok (.iconst 0, 1) := by decide +kernel
theorem dX11_unlike_69 : decode cX11_unlike 69 = .ok (.ireturn, 1) := by decide +kernel
theorem dX11_most_0 : decode cX11_most 0 = .ok (.aload_n 0, 1) := by decide +kernel
theorem dX11_most_1 : decode cX11_most 1 = .ok (.iconst 0, 1) := by decide +kernel
theorem dX11_most_2 : decode cX11_most 2 = .ok (.putfield 75, 3) := by decide +kernel
theorem dX11_most_5 : decode cX11_most 5 = .ok (.iload_n 1, 1) := by decide +kernel
theorem dX11_most_6 : decode cX11_most 6 = .ok (.iconst 3, 1) := by decide +kernel
theorem dX11_most_7 : decode cX11_most 7 = .ok (.if_icmp .ne 8, 3) := by decide +kernel
theorem dX11_most_15 : decode cX11_most 15 = .ok (.aload_n 0, 1) := by decide +kernel
theorem dX11_most_16 : decode cX11_most 16 = .ok (.getfield 17, 3) := by decide +kernel
theorem dX11_most_19 : decode cX11_most 19 = .ok (.bipush 80, 2) := by decide +kernel
theorem dX11_most_21 : decode cX11_most 21 = .ok (.iaload, 1) := by decide +kernel
theorem dX11_most_22 : decode cX11_most 22 = .ok (.ifCond .eq 15, 3) := by decide +kernel
theorem dX11_most_37 : decode cX11_most 37 = .ok (.iconst (-1), 1) := by decide +kernel
theorem dX11_most_25 : decode cX11_most 25 = .ok (.iload_n 1, 1) := by decide +kernel
theorem dX11_most_26 : decode cX11_most 26 = .ok (.i2l, 1) := by decide +kernel
theorem dX11_most_27 : decode cX11_most 27 = .ok (.lconst 0, 1) := by decide +kernel
theorem dX11_most_28 : decode cX11_most 28 = .ok (.ldc2_w 261, 3) := by decide +kernel
theorem dX11_most_31 : decode cX11_most 31 = .ok (.invokestatic 158, 3) := by decide +kernel
theorem dX11_most_34 : decode cX11_most 34 = .ok (.ifCond .ne 5, 3) := by decide +kernel
theorem dX11_most_39 : decode cX11_most 39 = .ok (.iload_n 1, 1) := by decide +kernel
theorem dX11_most_40 : decode cX11_most 40 = .ok (.iconst 3, 1) := by decide +kernel
theorem dX11_most_41 : decode cX11_most 41 = .ok (.if_icmp .ge 9, 3) := by decide +kernel
theorem dX11_most_50 : decode cX11_most 50 = .ok (.sipush 255, 3) := by decide +kernel
theorem dX11_most_53 : decode cX11_most 53 = .ok (.istore_n 2, 1) := by decide +kernel
theorem dX11_most_54 : decode cX11_most 54 = .ok (.iconst 0, 1) := by decide +kernel
theorem dX11_most_55 : decode cX11_most 55 = .ok (.istore_n 3, 1) := by decide +kernel
theorem dX11_most_44 : decode cX11_most 44 = .ok (.aload_n 0, 1) := by decide +kernel
theorem dX11_most_45 : decode cX11_most 45 = .ok (.iload_n 1, 1) := by decide +kernel
theorem dX11_most_46 : decode cX11_most 46 = .ok (.invokevirtual 450, 3) := by decide +kernel
theorem w_2046 : Cond.methodLink "QuarterWalksModel" 450 yX11_mostBy ∈ wAll := wI9 31 (by decide +kernel) (by decide +kernel)
theorem w_93 : Cond.selects yX11_mostBy.cls yX11_mostBy yX11_mostBy ∈ wAll := wIn 93 (by decide +kernel) (by decide +kernel)
theorem mk_X11_mostBy : mk yX11_mostBy 1 := ⟨by decide +kernel, w_110⟩
theorem w_2048 : Cond.instanceMethod yX11_mostBy ∈ wAll := wI9 33 (by decide +kernel) (by decide +kernel)
theorem w_2049 : Cond.code yX11_mostBy cX11_mostBy 6 (some .int) ∈ wAll := wI9 34 (by decide +kernel) (by decide +kernel)
theorem dX11_most_10 : decode cX11_most 10 = .ok (.aload_n 0, 1) := by decide +kernel
theorem dX11_most_11 : decode cX11_most 11 = .ok (.invokevirtual 447, 3) := by decide +kernel
theorem w_2038 : Cond.methodLink "QuarterWalksModel" 447 yX11_unlike ∈ wAll := wI9 23 (by decide +kernel) (by decide +kernel)
theorem w_91 : Cond.selects yX11_unlike.cls yX11_unlike yX11_unlike ∈ wAll := wIn 91 (by decide +kernel) (by decide +kernel)
theorem mk_X11_unlike : mk yX11_unlike 0 := ⟨by decide +kernel, w_110⟩
theorem w_2040 : Cond.instanceMethod yX11_unlike ∈ wAll := wI9 25 (by decide +kernel) (by decide +kernel)
theorem w_2041 : Cond.code yX11_unlike cX11_unlike 5 (some .int) ∈ wAll := wI9 26 (by decide +kernel) (by decide +kernel)
theorem dX11_most_56 : decode cX11_most 56 = .ok (.iload_n 3, 1) := by decide +kernel
theorem dX11_most_57 : decode cX11_most 57 = .ok (.aload_n 0, 1) := by decide +kernel
theorem dX11_most_58 : decode cX11_most 58 = .ok (.getfield 17, 3) := by decide +kernel
theorem dX11_most_61 : decode cX11_most 61 = .ok (.bipush 80, 2) := by decide +kernel
theorem dX11_most_63 : decode cX11_most 63 = .ok (.iaload, 1) := by decide +kernel
theorem dX11_most_64 : decode cX11_most 64 = .ok (.if_icmp .ge 17, 3) := by decide +kernel
theorem dX11_most_81 : decode cX11_most 81 = .ok (.iload_n 2, 1) := by decide +kernel
theorem dX11_most_67 : decode cX11_most 67 = .ok (.iload_n 2, 1) := by decide +kernel
theorem dX11_most_68 : decode cX11_most 68 = .ok (.aload_n 0, 1) := by decide +kernel
theorem dX11_most_69 : decode cX11_most 69 = .ok (.iload_n 3, 1) := by decide +kernel
theorem dX11_most_70 : decode cX11_most 70 = .ok (.invokevirtual 203, 3) := by decide +kernel
theorem dX11_most_73 : decode cX11_most 73 = .ok (.iand, 1) := by decide +kernel
theorem dX11_most_74 : decode cX11_most 74 = .ok (.istore_n 2, 1) := by decide +kernel
theorem dX11_most_75 : decode cX11_most 75 = .ok (.iinc 3 1, 3) := by decide +kernel
theorem dX11_most_78 : decode cX11_most 78 = .ok (.goto (-22), 3) := by decide +kernel
theorem dX11_most_82 : decode cX11_most 82 = .ok (.ireturn, 1) := by decide +kernel
theorem dX11_most_38 : decode cX11_most 38 = .ok (.ireturn, 1) := by decide +kernel
theorem dX11_most_49 : decode cX11_most 49 = .ok (.ireturn, 1) := by decide +kernel
theorem dX11_most_14 : decode cX11_most 14 = .ok (.ireturn, 1) := by decide +kernel
theorem dX11_count_0 : decode cX11_count 0 = .ok (.aload_n 0, 1) := by decide +kernel
theorem dX11_count_1 : decode cX11_count 1 = .ok (.iconst 0, 1) := by decide +kernel
theorem dX11_count_2 : decode cX11_count 2 = .ok (.putfield 75, 3) := by decide +kernel
theorem dX11_count_5 : decode cX11_count 5 = .ok (.iload_n 1, 1) := by decide +kernel
theorem dX11_count_6 : decode cX11_count 6 = .ok (.ifCond .ne 10, 3) := by decide +kernel
theorem dX11_count_16 : decode cX11_count 16 = .ok (.iload_n 1, 1) := by decide +kernel
theorem dX11_count_17 : decode cX11_count 17 = .ok (.iconst 1, 1) := by decide +kernel
theorem dX11_count_18 : decode cX11_count 18 = .ok (.if_icmp .ne 10, 3) := by decide +kernel
theorem dX11_count_28 : decode cX11_count 28 = .ok (.iload_n 1, 1) := by decide +kernel
theorem dX11_count_29 : decode cX11_count 29 = .ok (.iconst 2, 1) := by decide +kernel
theorem dX11_count_30 : decode cX11_count 30 = .ok (.if_icmp .ne 13, 3) := by decide +kernel
theorem dX11_count_43 : decode cX11_count 43 = .ok (.iconst (-1), 1) := by decide +kernel
theorem dX11_count_33 : decode cX11_count 33 = .ok (.aload_n 0, 1) := by decide +kernel
theorem dX11_count_34 : decode cX11_count 34 = .ok (.getfield 17, 3) := by decide +kernel
theorem dX11_count_37 : decode cX11_count 37 = .ok (.bipush 80, 2) := by decide +kernel
theorem dX11_count_39 : decode cX11_count 39 = .ok (.iaload, 1) := by decide +kernel
theorem dX11_count_40 : decode cX11_count 40 = .ok (.goto 4, 3) := by decide +kernel
theorem dX11_count_21 : decode cX11_count 21 = .ok (.aload_n 0, 1) := by decide +kernel
theorem dX11_count_22 : decode cX11_count 22 = .ok (.getfield 155, 3) := by decide +kernel
theorem w_1443 : Cond.fieldLink "QuarterWalksModel" 155 "QuarterWalksModel" "acts" "I" ∈ wAll := wI6 148 (by decide +kernel) (by decide +kernel)
theorem fl_X11_155 : fl RX11 155 12 10 := ⟨RX11, TX11, 32, rfl, inA_X11, by decide, w_1443⟩
theorem dX11_count_25 : decode cX11_count 25 = .ok (.goto 19, 3) := by decide +kernel
theorem dX11_count_9 : decode cX11_count 9 = .ok (.aload_n 0, 1) := by decide +kernel
theorem dX11_count_10 : decode cX11_count 10 = .ok (.getfield 79, 3) := by decide +kernel
theorem w_1435 : Cond.fieldLink "QuarterWalksModel" 79 "QuarterWalksModel" "length" "I" ∈ wAll := wI6 140 (by decide +kernel) (by decide +kernel)
theorem fl_X11_79 : fl RX11 79 12 2 := ⟨RX11, TX11, 32, rfl, inA_X11, by decide, w_1435⟩
theorem dX11_count_13 : decode cX11_count 13 = .ok (.goto 31, 3) := by decide +kernel
theorem dX11_count_44 : decode cX11_count 44 = .ok (.ireturn, 1) := by decide +kernel
theorem dX11_rule_0 : decode cX11_rule 0 = .ok (.aload_n 0, 1) := by decide +kernel
theorem dX11_rule_1 : decode cX11_rule 1 = .ok (.aload_n 0, 1) := by decide +kernel
theorem dX11_rule_2 : decode cX11_rule 2 = .ok (.iload_n 1, 1) := by decide +kernel
theorem dX11_rule_3 : decode cX11_rule 3 = .ok (.invokevirtual 171, 3) := by decide +kernel
theorem dX11_rule_6 : decode cX11_rule 6 = .ok (.ifCond .eq 19, 3) := by decide +kernel
theorem dX11_rule_25 : decode cX11_rule 25 = .ok (.iconst 1, 1) := by decide +kernel
theorem dX11_rule_26 : decode cX11_rule 26 = .ok (.putfield 75, 3) := by decide +kernel
theorem dX11_rule_29 : decode cX11_rule 29 = .ok (.aload_n 0, 1) := by decide +kernel
theorem dX11_rule_30 : decode cX11_rule 30 = .ok (.getfield 75, 3) := by decide +kernel
theorem fl_X11_75 : fl RX11 75 12 0 := ⟨RX11, TX11, 32, rfl, inA_X11, by decide, w_1433⟩
theorem dX11_rule_33 : decode cX11_rule 33 = .ok (.ifCond .le 5, 3) := by decide +kernel
theorem dX11_rule_36 : decode cX11_rule 36 = .ok (.iconst 0, 1) := by decide +kernel
theorem dX11_rule_9 : decode cX11_rule 9 = .ok (.iload_n 2, 1) := by decide +kernel
theorem dX11_rule_10 : decode cX11_rule 10 = .ok (.i2l, 1) := by decide +kernel
theorem dX11_rule_11 : decode cX11_rule 11 = .ok (.lconst 0, 1) := by decide +kernel
theorem dX11_rule_12 : decode cX11_rule 12 = .ok (.ldc2_w 197, 3) := by decide +kernel
theorem w_1670 : Cond.constantLong "QuarterWalksModel" 197 14 ∈ wAll := wI7 135 (by decide +kernel) (by decide +kernel)
theorem dX11_rule_15 : decode cX11_rule 15 = .ok (.invokestatic 158, 3) := by decide +kernel
theorem dX11_rule_18 : decode cX11_rule 18 = .ok (.ifCond .eq 7, 3) := by decide +kernel
theorem dX11_rule_21 : decode cX11_rule 21 = .ok (.iconst 0, 1) := by decide +kernel
theorem dX11_rule_22 : decode cX11_rule 22 = .ok (.goto 4, 3) := by decide +kernel
theorem dX11_rule_38 : decode cX11_rule 38 = .ok (.iload_n 2, 1) := by decide +kernel
theorem dX11_rule_39 : decode cX11_rule 39 = .ok (.tableswitch 89 8 14 #[41, 47, 53, 61, 69, 76, 83], 41) := by decide +kernel
theorem sw_8_14 (p : Int32) : p = 8 ∨ p = 9 ∨ p = 10 ∨ p = 11 ∨ p = 12 ∨ p = 13 ∨ p = 14 ∨ (p.toInt < 8 ∨ 14 < p.toInt) := by
  have h : p.toInt = 8 ∨ p.toInt = 9 ∨ p.toInt = 10 ∨ p.toInt = 11 ∨ p.toInt = 12 ∨ p.toInt = 13 ∨ p.toInt = 14 ∨ (p.toInt < 8 ∨ 14 < p.toInt) := by omega
  rcases h with h | h | h | h | h | h | h | h
  · exact Or.inl (Int32.toInt_inj.mp (h.trans rfl))
  · exact Or.inr (Or.inl (Int32.toInt_inj.mp (h.trans rfl)))
  · exact Or.inr (Or.inr (Or.inl (Int32.toInt_inj.mp (h.trans rfl))))
  · exact Or.inr (Or.inr (Or.inr (Or.inl (Int32.toInt_inj.mp (h.trans rfl)))))
  · exact Or.inr (Or.inr (Or.inr (Or.inr (Or.inl (Int32.toInt_inj.mp (h.trans rfl))))))
  · exact Or.inr (Or.inr (Or.inr (Or.inr (Or.inr (Or.inl (Int32.toInt_inj.mp (h.trans rfl)))))))
  · exact Or.inr (Or.inr (Or.inr (Or.inr (Or.inr (Or.inr (Or.inl (Int32.toInt_inj.mp (h.trans rfl))))))))
  · exact Or.inr (Or.inr (Or.inr (Or.inr (Or.inr (Or.inr (Or.inr (h)))))))
theorem dX11_rule_80 : decode cX11_rule 80 = .ok (.aload_n 0, 1) := by decide +kernel
theorem dX11_rule_81 : decode cX11_rule 81 = .ok (.iload_n 1, 1) := by decide +kernel
theorem dX11_rule_82 : decode cX11_rule 82 = .ok (.invokevirtual 188, 3) := by decide +kernel
theorem dX11_rule_86 : decode cX11_rule 86 = .ok (.aload_n 0, 1) := by decide +kernel
theorem dX11_rule_87 : decode cX11_rule 87 = .ok (.iload_n 1, 1) := by decide +kernel
theorem dX11_rule_88 : decode cX11_rule 88 = .ok (.invokevirtual 183, 3) := by decide +kernel
theorem dX11_rule_92 : decode cX11_rule 92 = .ok (.aload_n 0, 1) := by decide +kernel
theorem dX11_rule_93 : decode cX11_rule 93 = .ok (.iload_n 1, 1) := by decide +kernel
theorem dX11_rule_94 : decode cX11_rule 94 = .ok (.bipush 8, 2) := by decide +kernel
theorem dX11_rule_96 : decode cX11_rule 96 = .ok (.invokevirtual 175, 3) := by decide +kernel
theorem dX11_rule_100 : decode cX11_rule 100 = .ok (.aload_n 0, 1) := by decide +kernel
theorem dX11_rule_101 : decode cX11_rule 101 = .ok (.iload_n 1, 1) := by decide +kernel
theorem dX11_rule_102 : decode cX11_rule 102 = .ok (.bipush 9, 2) := by decide +kernel
theorem dX11_rule_104 : decode cX11_rule 104 = .ok (.invokevirtual 175, 3) := by decide +kernel
theorem dX11_rule_108 : decode cX11_rule 108 = .ok (.aload_n 0, 1) := by decide +kernel
theorem dX11_rule_109 : decode cX11_rule 109 = .ok (.iload_n 1, 1) := by decide +kernel
theorem dX11_rule_110 : decode cX11_rule 110 = .ok (.iconst 1, 1) := by decide +kernel
theorem dX11_rule_111 : decode cX11_rule 111 = .ok (.invokevirtual 199, 3) := by decide +kernel
theorem w_1671 : Cond.methodLink "QuarterWalksModel" 199 yX11_driftOf ∈ wAll := wI7 136 (by decide +kernel) (by decide +kernel)
theorem w_55 : Cond.selects yX11_driftOf.cls yX11_driftOf yX11_driftOf ∈ wAll := wIn 55 (by decide +kernel) (by decide +kernel)
theorem mk_X11_driftOf : mk yX11_driftOf 2 := ⟨by decide +kernel, w_110⟩
theorem w_1673 : Cond.instanceMethod yX11_driftOf ∈ wAll := wI7 138 (by decide +kernel) (by decide +kernel)
theorem w_1674 : Cond.code yX11_driftOf cX11_driftOf 5 (some .int) ∈ wAll := wI7 139 (by decide +kernel) (by decide +kernel)
theorem dX11_rule_115 : decode cX11_rule 115 = .ok (.aload_n 0, 1) := by decide +kernel
theorem dX11_rule_116 : decode cX11_rule 116 = .ok (.iload_n 1, 1) := by decide +kernel
theorem dX11_rule_117 : decode cX11_rule 117 = .ok (.iconst 0, 1) := by decide +kernel
theorem dX11_rule_118 : decode cX11_rule 118 = .ok (.invokevirtual 199, 3) := by decide +kernel
theorem dX11_rule_122 : decode cX11_rule 122 = .ok (.aload_n 0, 1) := by decide +kernel
theorem dX11_rule_123 : decode cX11_rule 123 = .ok (.iload_n 1, 1) := by decide +kernel
theorem dX11_rule_124 : decode cX11_rule 124 = .ok (.invokevirtual 203, 3) := by decide +kernel
theorem dX11_rule_128 : decode cX11_rule 128 = .ok (.aload_n 0, 1) := by decide +kernel
theorem dX11_rule_129 : decode cX11_rule 129 = .ok (.iload_n 1, 1) := by decide +kernel
theorem dX11_rule_130 : decode cX11_rule 130 = .ok (.iload_n 2, 1) := by decide +kernel
theorem dX11_rule_131 : decode cX11_rule 131 = .ok (.invokevirtual 175, 3) := by decide +kernel
theorem dX11_rule_37 : decode cX11_rule 37 = .ok (.ireturn, 1) := by decide +kernel
theorem dX11_rule_85 : decode cX11_rule 85 = .ok (.ireturn, 1) := by decide +kernel
theorem dX11_rule_91 : decode cX11_rule 91 = .ok (.ireturn, 1) := by decide +kernel
theorem dX11_rule_99 : decode cX11_rule 99 = .ok (.ireturn, 1) := by decide +kernel
theorem dX11_rule_107 : decode cX11_rule 107 = .ok (.ireturn, 1) := by decide +kernel
theorem dX11_rule_114 : decode cX11_rule 114 = .ok (.ireturn, 1) := by decide +kernel
theorem dX11_rule_121 : decode cX11_rule 121 = .ok (.ireturn, 1) := by decide +kernel
theorem dX11_rule_127 : decode cX11_rule 127 = .ok (.ireturn, 1) := by decide +kernel
theorem dX11_rule_134 : decode cX11_rule 134 = .ok (.ireturn, 1) := by decide +kernel
abbrev rm_s_X11_out : Room := { frames := 3, cells := 0, slots := 0, locals := 83 }
set_option maxRecDepth 100000 in
set_option maxHeartbeats 4000000 in
theorem s_X11_out (l : Launch) (D : va_G) (G : Nat → Nat) (b0 : Nat) (τ : Nat → Nat) (f : hM) (t : TI G 9 τ f) (u0 : Nat) (hu0 : τ u0 = 60) (u1 : Int32) (hu1 : iv u1 (-2147483648) 2147483647) (u2 : Int32) (hu2 : iv u2 (-2147483648) 2147483647) (hNG : NGs τ f u0) : mI l yX11_out cX11_out 9 (.int) rm_s_X11_out D G b0 f [.ref u0, .int u1, .int u2] (fun r f1 => iv r (-1000002) 1000002 ∧ TI G 9 τ f1 ∧ Fr [60, 67, 60001, 60013, 60014, 60015] τ f f1 ∧ NGs τ f1 u0) := by
  refine met2 (own := RX11) (by decide) rfl (Nat.le_of_ble_eq_true rfl) ?_
  intro p e s m args below meth c ls Q hQ C hr hini hl h
  have hl : lv_has ls 9 [(0, .ref u0), (1, .int u1), (2, .int u2)] := hl
  obtain ⟨hx, hb, hml, hown, hts, hE0, hlk⟩ := id C
  have o := Fr.rf [60, 67, 60001, 60013, 60014, 60015] τ f
  have L35 : ∀ (n35 : Nat) (ls : Array Slot) (f_35 : hM) (H : Heap) (locs : List Loc) (v35_3 : Int64) (v35_5 : Int32) (g35_u0_14 : Int32), 75 - v35_5.toInt < (n35 : Int) → lv_has ls 9 [(0, .ref u0), (1, .int u1), (3, .long v35_3), (5, .int v35_5)] → hw D b0 s.heap f_35 H locs → TI G 9 τ f_35 → Fr [60, 67, 60001, 60013, 60014, 60015] τ f f_35 → iv u1 0 7 → iv v35_5 0 75 → iv g35_u0_14 0 60 → NGs τ f_35 u0 → atp f_35 u0 (fd 14 (.int g35_u0_14)) → W p l e rm_s_X11_out s m args below meth c H locs 0 0 Q (F0 m 35 ls []) := by
    intro n35
    induction n35 with
    | zero => intro ls f_35 H locs v35_3 v35_5 g35_u0_14 hm35 hl h t_35 o_35 jv35_1 iv35_5 ig35_u0_14 k35_u0_NG k35_u0_14; exact absurd hm35 (by omega)
    | succ n35 ih35 =>
      intro ls f_35 H locs v35_3 v35_5 g35_u0_14 hm35 hl h t_35 o_35 jv35_1 iv35_5 ig35_u0_14 k35_u0_NG k35_u0_14
      have L45 : ∀ (n45 : Nat) (ls : Array Slot) (f_45 : hM) (H : Heap) (locs : List Loc) (v45_3 : Int64) (v45_6 : Int32), 75 - v45_6.toInt < (n45 : Int) → lv_has ls 9 [(0, .ref u0), (1, .int u1), (3, .long v45_3), (5, .int v35_5), (6, .int v45_6)] → hw D b0 s.heap f_45 H locs → TI G 9 τ f_45 → Fr [60, 67, 60001, 60013, 60014, 60015] τ f f_45 → iv v35_5 0 74 → iv v45_6 0 75 → NGs τ f_45 u0 → atp f_45 u0 (fd 14 (.int g35_u0_14)) → W p l e rm_s_X11_out s m args below meth c H locs 0 0 Q (F0 m 45 ls []) := by
        intro n45
        induction n45 with
        | zero => intro ls f_45 H locs v45_3 v45_6 hm45 hl h t_45 o_45 jv45_5 iv45_6 k45_u0_NG k45_u0_14; exact absurd hm45 (by omega)
        | succ n45 ih45 =>
          intro ls f_45 H locs v45_3 v45_6 hm45 hl h t_45 o_45 jv45_5 iv45_6 k45_u0_NG k45_u0_14
          have L58 : ∀ (n58 : Nat) (ls : Array Slot) (f_58 : hM) (H : Heap) (locs : List Loc) (v58_3 : Int64) (v58_7 : Int32) (v58_8 : Int32), 8 - v58_8.toInt < (n58 : Int) → lv_has ls 9 [(0, .ref u0), (1, .int u1), (3, .long v58_3), (5, .int v35_5), (6, .int v45_6), (7, .int v58_7), (8, .int v58_8)] → hw D b0 s.heap f_58 H locs → TI G 9 τ f_58 → Fr [60, 67, 60001, 60013, 60014, 60015] τ f f_58 → iv v45_6 0 74 → iv v58_7 (-2147483648) 2147483647 → iv v58_8 0 8 → NGs τ f_58 u0 → atp f_58 u0 (fd 14 (.int g35_u0_14)) → W p l e rm_s_X11_out s m args below meth c H locs 0 0 Q (F0 m 58 ls []) := by
            intro n58
            induction n58 with
            | zero => intro ls f_58 H locs v58_3 v58_7 v58_8 hm58 hl h t_58 o_58 jv58_6 iv58_7 iv58_8 k58_u0_NG k58_u0_14; exact absurd hm58 (by omega)
            | succ n58 ih58 =>
              intro ls f_58 H locs v58_3 v58_7 v58_8 hm58 hl h t_58 o_58 jv58_6 iv58_7 iv58_8 k58_u0_NG k58_u0_14
              refine lv_iload hx hb dX11_out_58 (lv_at hl 6 rfl) ?_
              refine lv_bipush (v := 8) hx hb dX11_out_60 (by decide) ?_
              refine lv_icmp_ge (tgt := 110) hx hb dX11_out_62 (by decide) (fun c1 => ?_) (fun c1 => ?_)
              · have c2 : 8 ≤ v58_8.toInt := Int32.le_iff_toInt_le.mp c1
                have i3 : iv v58_8 8 8 := iv_Er c2 (iv_k (x := 8) (k := 8) rfl) iv58_8 (by decide)
                refine lv_lload_n hx hb dX11_out_110 rfl (lv_at hl 2 rfl) ?_
                refine lv_aload_n hx hb dX11_out_111 rfl (lv_at hl 0 rfl) ?_
                refine t_getr (tq := 67) C h t_58 hu0 (by decide) wf_60 rfl fl_X11_29 dX11_out_112 (fun q6 tq6 => ?_)
                refine lv_iload hx hb dX11_out_115 (lv_at hl 3 rfl) ?_
                refine lv_iload hx hb dX11_out_117 (lv_at hl 4 rfl) ?_
                refine k_i (r_S C h hl (As := [.int v35_5, .int v45_6]) (rest := [.ref q6, .long v58_3]) (s_X11_cell l D G b0 τ f_58 t_58 v35_5 (iv_w jv45_5 (by decide)) v45_6 (iv_w jv58_6 (by decide))) mk_X11_cell w_1706 w_1707 w_1708 ⟨Nat.le_of_ble_eq_true rfl, Nat.le_of_ble_eq_true rfl⟩ rfl (Nat.le_of_ble_eq_true rfl) ⟨Nat.le_of_ble_eq_true rfl, Nat.le_of_ble_eq_true rfl⟩ rfl dX11_out_119) h (fun r7 f8 H locs p9 h => ?_)
                obtain ⟨ir7, tf8, ogf8, x0r7⟩ := p9
                have egf8 := Fr.nil2 ogf8
                subst egf8
                refine t_lald C h t_58 tq6 (by decide) wf_67 (iv_in ir7 (by decide)) dX11_out_122 (fun w10 => ?_)
                refine lv_iload hx hb dX11_out_123 (lv_at hl 5 rfl) ?_
                refine lv_i2l hx hb dX11_out_125 rfl (i_topL iv58_7 (fun w11 ew11 mw11 iw11 => ?_))
                refine lv_lmul hx hb dX11_out_126 (lv_topl (fun w12 ew12 => ?_))
                refine lv_ladd hx hb dX11_out_127 (lv_topl (fun w13 ew13 => ?_))
                refine lv_lstore_n (lv' := [(3, .long w13), (0, .ref u0), (1, .int u1), (5, .int v35_5), (6, .int v45_6), (7, .int v58_7), (8, .int v58_8)]) hx hb dX11_out_128 rfl hl (by decide) rfl (fun ls hl => ?_)
                refine i_inc hx hb dX11_out_129 hl (k := 4) rfl jv58_6 rfl (lo := 1) (hi := 75) (by decide) (by decide) (lv' := fun v => [(6, .int v), (3, .long w13), (0, .ref u0), (1, .int u1), (5, .int v35_5), (7, .int v58_7), (8, .int v58_8)]) (fun _ => rfl) (fun z14 ls ez14 mz14 iz14 hl => ?_)
                refine lv_goto (tgt := 45) hx hb dX11_out_132 (by decide) ?_
                exact ih45 ls f_58 H locs w13 z14 (show 75 - z14.toInt < _ by omega) (lv_cons hl 2 rfl (lv_cons hl 3 rfl (lv_cons hl 1 rfl (lv_cons hl 4 rfl (lv_cons hl 0 rfl (lv_nil hl)))))) h t_58 o_58 jv45_5 (iv_w iz14 (by decide)) k58_u0_NG k58_u0_14
              · have c4 : v58_8.toInt < 8 := Int32.lt_iff_toInt_lt.mp (iv_nle c1)
                have i5 : iv v58_8 0 7 := iv_Ll c4 iv58_8 (iv_k (x := 8) (k := 8) rfl) (by decide)
                refine lv_iload hx hb dX11_out_65 (lv_at hl 5 rfl) ?_
                refine lv_iconst (v := 0) hx hb dX11_out_67 (by decide) ?_
                refine lv_iload hx hb dX11_out_68 (lv_at hl 3 rfl) ?_
                refine lv_iload hx hb dX11_out_70 (lv_at hl 6 rfl) ?_
                refine k_i (r_S C h hl (As := [.int v58_8]) (rest := [.int v35_5, .int 0, .int v58_7]) (s_X11_dx l D G b0 τ f_58 t_58 v58_8 (iv_w i5 (by decide))) mk_X11_dx w_1675 w_1676 w_1677 ⟨Nat.le_of_ble_eq_true rfl, Nat.le_of_ble_eq_true rfl⟩ rfl (Nat.le_of_ble_eq_true rfl) ⟨Nat.le_of_ble_eq_true rfl, Nat.le_of_ble_eq_true rfl⟩ rfl dX11_out_72) h (fun r15 f16 H locs p17 h => ?_)
                obtain ⟨ir15, tf16, ogf16⟩ := p17
                have egf16 := Fr.nil2 ogf16
                subst egf16
                refine i_add hx hb dX11_out_75 jv45_5 ir15 (lo := (-1)) (hi := 75) (by decide) (fun z18 ez18 mz18 iz18 => ?_)
                refine lv_iload hx hb dX11_out_76 (lv_at hl 4 rfl) ?_
                refine lv_iload hx hb dX11_out_78 (lv_at hl 6 rfl) ?_
                refine k_i (r_S C h hl (As := [.int v58_8]) (rest := [.int v45_6, .int z18, .int 0, .int v58_7]) (s_X11_dy l D G b0 τ f_58 t_58 v58_8 (iv_w i5 (by decide))) mk_X11_dy w_1678 w_1679 w_1680 ⟨Nat.le_of_ble_eq_true rfl, Nat.le_of_ble_eq_true rfl⟩ rfl (Nat.le_of_ble_eq_true rfl) ⟨Nat.le_of_ble_eq_true rfl, Nat.le_of_ble_eq_true rfl⟩ rfl dX11_out_80) h (fun r19 f20 H locs p21 h => ?_)
                obtain ⟨ir19, tf20, ogf20⟩ := p21
                have egf20 := Fr.nil2 ogf20
                subst egf20
                refine i_add hx hb dX11_out_83 jv58_6 ir19 (lo := (-1)) (hi := 75) (by decide) (fun z22 ez22 mz22 iz22 => ?_)
                refine k_i (r_S C h hl (As := [.int 0, .int z18, .int z22]) (rest := [.int v58_7]) (s_X11_isInside l D G b0 τ f_58 t_58 0 (iv_w (iv_k (x := 0) (k := 0) rfl) (by decide)) z18 (iv_w iz18 (by decide)) z22 (iv_w iz22 (by decide))) mk_X11_isInside w_1713 w_1714 w_1715 ⟨Nat.le_of_ble_eq_true rfl, Nat.le_of_ble_eq_true rfl⟩ rfl (Nat.le_of_ble_eq_true rfl) ⟨Nat.le_of_ble_eq_true rfl, Nat.le_of_ble_eq_true rfl⟩ rfl dX11_out_84) h (fun r23 f24 H locs p25 h => ?_)
                have n26 : (0 : Int32).toInt = 0 := rfl
                obtain ⟨ir23, tf24, ogf24, cnr23⟩ := p25
                have egf24 := Fr.nil2 ogf24
                subst egf24
                refine lv_if_eq (tgt := 94) hx hb dX11_out_87 (by decide) (fun c27 => ?_) (fun c27 => ?_)
                · have c28 : r23.toInt = 0 := congrArg Int32.toInt c27
                  have i29 : iv r23 0 0 := iv_Q c28 ir23 (iv_k (x := 0) (k := 0) rfl) (by decide)
                  refine lv_aload_n hx hb dX11_out_94 rfl (lv_at hl 0 rfl) ?_
                  refine lv_iload_n hx hb dX11_out_95 rfl (lv_at hl 1 rfl) ?_
                  refine lv_iload hx hb dX11_out_96 (lv_at hl 6 rfl) ?_
                  obtain ⟨_, r33⟩ := t_rec t_58 hu0 (by decide) wf_60
                  refine k_i (r_V C h hl (As := [.int u1, .int v58_8]) (rest := [.int v58_7]) (s_X11_weightOf l D G b0 τ f_58 t_58 u0 hu0 u1 jv35_1 v58_8 (iv_w i5 (by decide))) r33 (Cn := RX11) (T := TX11) (N := 32) rfl rfl mk_X11_weightOf w_1631 w_1633 w_52 w_1634 ⟨Nat.le_of_ble_eq_true rfl, Nat.le_of_ble_eq_true rfl⟩ rfl (Nat.le_of_ble_eq_true rfl) ⟨Nat.le_of_ble_eq_true rfl, Nat.le_of_ble_eq_true rfl⟩ rfl dX11_out_98) h (fun r34 f35 H locs p36 h => ?_)
                  obtain ⟨ir34, tf35, ogf35⟩ := p36
                  have egf35 := Fr.nil2 ogf35
                  subst egf35
                  refine lv_iadd hx hb dX11_out_101 (i_top (iv_any _) (fun z37 ez37 iz37 => ?_))
                  refine lv_istore (lv' := [(7, .int z37), (0, .ref u0), (1, .int u1), (3, .long v58_3), (5, .int v35_5), (6, .int v45_6), (8, .int v58_8)]) hx hb dX11_out_102 hl (by decide) rfl (fun ls hl => ?_)
                  refine i_inc hx hb dX11_out_104 hl (k := 6) rfl i5 rfl (lo := 1) (hi := 8) (by decide) (by decide) (lv' := fun v => [(8, .int v), (7, .int z37), (0, .ref u0), (1, .int u1), (3, .long v58_3), (5, .int v35_5), (6, .int v45_6)]) (fun _ => rfl) (fun z38 ls ez38 mz38 iz38 hl => ?_)
                  refine lv_goto (tgt := 58) hx hb dX11_out_107 (by decide) ?_
                  exact ih58 ls f_58 H locs v58_3 z37 z38 (show 8 - z38.toInt < _ by omega) (lv_cons hl 2 rfl (lv_cons hl 3 rfl (lv_cons hl 4 rfl (lv_cons hl 5 rfl (lv_cons hl 6 rfl (lv_cons hl 1 rfl (lv_cons hl 0 rfl (lv_nil hl)))))))) h t_58 o_58 jv58_6 iz37 (iv_w iz38 (by decide)) k58_u0_NG k58_u0_14
                · have c30 : r23.toInt ≠ 0 := fun z_ => c27 (Int32.toInt_inj.mp z_)
                  have i31 : iv r23 1 1 := iv_Nl c30 ir23 (by decide)
                  have i32 := cnr23 c30
                  refine lv_iconst (v := 0) hx hb dX11_out_90 (by decide) ?_
                  refine lv_goto (tgt := 101) hx hb dX11_out_91 (by decide) ?_
                  refine i_addk hx hb dX11_out_101 iv58_7 (k := 0) rfl (lo := (-2147483648)) (hi := 2147483647) (by decide) (fun z39 ez39 mz39 iz39 => ?_)
                  refine lv_istore (lv' := [(7, .int z39), (0, .ref u0), (1, .int u1), (3, .long v58_3), (5, .int v35_5), (6, .int v45_6), (8, .int v58_8)]) hx hb dX11_out_102 hl (by decide) rfl (fun ls hl => ?_)
                  refine i_inc hx hb dX11_out_104 hl (k := 6) rfl i5 rfl (lo := 1) (hi := 8) (by decide) (by decide) (lv' := fun v => [(8, .int v), (7, .int z39), (0, .ref u0), (1, .int u1), (3, .long v58_3), (5, .int v35_5), (6, .int v45_6)]) (fun _ => rfl) (fun z40 ls ez40 mz40 iz40 hl => ?_)
                  refine lv_goto (tgt := 58) hx hb dX11_out_107 (by decide) ?_
                  exact ih58 ls f_58 H locs v58_3 z39 z40 (show 8 - z40.toInt < _ by omega) (lv_cons hl 2 rfl (lv_cons hl 3 rfl (lv_cons hl 4 rfl (lv_cons hl 5 rfl (lv_cons hl 6 rfl (lv_cons hl 1 rfl (lv_cons hl 0 rfl (lv_nil hl)))))))) h t_58 o_58 jv58_6 iz39 (iv_w iz40 (by decide)) k58_u0_NG k58_u0_14
          refine lv_iload hx hb dX11_out_45 (lv_at hl 4 rfl) ?_
          refine lv_bipush (v := 75) hx hb dX11_out_47 (by decide) ?_
          refine lv_icmp_ge (tgt := 135) hx hb dX11_out_49 (by decide) (fun c41 => ?_) (fun c41 => ?_)
          · have c42 : 75 ≤ v45_6.toInt := Int32.le_iff_toInt_le.mp c41
            have i43 : iv v45_6 75 75 := iv_Er c42 (iv_k (x := 75) (k := 75) rfl) iv45_6 (by decide)
            refine i_inc hx hb dX11_out_135 hl (k := 3) rfl jv45_5 rfl (lo := 1) (hi := 75) (by decide) (by decide) (lv' := fun v => [(5, .int v), (0, .ref u0), (1, .int u1), (3, .long v45_3), (6, .int v45_6)]) (fun _ => rfl) (fun z46 ls ez46 mz46 iz46 hl => ?_)
            refine lv_goto (tgt := 35) hx hb dX11_out_138 (by decide) ?_
            exact ih35 ls f_45 H locs v45_3 z46 g35_u0_14 (show 75 - z46.toInt < _ by omega) (lv_cons hl 1 rfl (lv_cons hl 2 rfl (lv_cons hl 3 rfl (lv_cons hl 0 rfl (lv_nil hl))))) h t_45 o_45 jv35_1 (iv_w iz46 (by decide)) ig35_u0_14 k45_u0_NG k45_u0_14
          · have c44 : v45_6.toInt < 75 := Int32.lt_iff_toInt_lt.mp (iv_nle c41)
            have i45 : iv v45_6 0 74 := iv_Ll c44 iv45_6 (iv_k (x := 75) (k := 75) rfl) (by decide)
            refine lv_iconst (v := 0) hx hb dX11_out_52 (by decide) ?_
            refine lv_istore (lv' := [(7, .int 0), (0, .ref u0), (1, .int u1), (3, .long v45_3), (5, .int v35_5), (6, .int v45_6)]) hx hb dX11_out_53 hl (by decide) rfl (fun ls hl => ?_)
            refine lv_iconst (v := 0) hx hb dX11_out_55 (by decide) ?_
            refine lv_istore (lv' := [(8, .int 0), (7, .int 0), (0, .ref u0), (1, .int u1), (3, .long v45_3), (5, .int v35_5), (6, .int v45_6)]) hx hb dX11_out_56 hl (by decide) rfl (fun ls hl => ?_)
            exact L58 9 ls f_45 H locs v45_3 0 0 (by decide) (lv_cons hl 2 rfl (lv_cons hl 3 rfl (lv_cons hl 4 rfl (lv_cons hl 5 rfl (lv_cons hl 6 rfl (lv_cons hl 1 rfl (lv_cons hl 0 rfl (lv_nil hl)))))))) h t_45 o_45 i45 ⟨by decide, by decide⟩ ⟨by decide, by decide⟩ k45_u0_NG k45_u0_14
      refine lv_iload hx hb dX11_out_35 (lv_at hl 3 rfl) ?_
      refine lv_bipush (v := 75) hx hb dX11_out_37 (by decide) ?_
      refine lv_icmp_ge (tgt := 141) hx hb dX11_out_39 (by decide) (fun c47 => ?_) (fun c47 => ?_)
      · have c48 : 75 ≤ v35_5.toInt := Int32.le_iff_toInt_le.mp c47
        have i49 : iv v35_5 75 75 := iv_Er c48 (iv_k (x := 75) (k := 75) rfl) iv35_5 (by decide)
        refine lv_lload_n hx hb dX11_out_141 rfl (lv_at hl 2 rfl) ?_
        refine lv_ldc2 (v := 1000003) hx hb hown (hts _ w_1719) dX11_out_142 ?_
        refine lv_lrem hx hb dX11_out_145 (by decide) (i_topl (lrem_iv (k := 1000003) rfl (by decide) (lo := -1000002) (hi := 1000002) (by decide)) (fun w52 ew52 iw52 => ?_))
        refine lv_l2i hx hb dX11_out_146 rfl (i_top (iv_l2i iw52 (by decide)) (fun z53 ez53 iz53 => ?_))
        exact u_iret C h hr hQ (⟨iz53, t_35, o_35, k35_u0_NG⟩) (Nat.le_of_ble_eq_true rfl) (Nat.le_of_ble_eq_true rfl) dX11_out_147
      · have c50 : v35_5.toInt < 75 := Int32.lt_iff_toInt_lt.mp (iv_nle c47)
        have i51 : iv v35_5 0 74 := iv_Ll c50 iv35_5 (iv_k (x := 75) (k := 75) rfl) (by decide)
        refine lv_iconst (v := 0) hx hb dX11_out_42 (by decide) ?_
        refine lv_istore (lv' := [(6, .int 0), (0, .ref u0), (1, .int u1), (3, .long v35_3), (5, .int v35_5)]) hx hb dX11_out_43 hl (by decide) rfl (fun ls hl => ?_)
        exact L45 76 ls f_35 H locs v35_3 0 (by decide) (lv_cons hl 1 rfl (lv_cons hl 2 rfl (lv_cons hl 3 rfl (lv_cons hl 4 rfl (lv_cons hl 0 rfl (lv_nil hl)))))) h t_35 o_35 i51 ⟨by decide, by decide⟩ k35_u0_NG k35_u0_14
  refine lv_aload_n hx hb dX11_out_0 rfl (lv_at hl 0 rfl) ?_
  refine lv_iconst (v := 0) hx hb dX11_out_1 (by decide) ?_
  refine t_put C h t o hu0 (by decide) (by decide) (by decide) wf_60 fw_60 (k := 0) rfl flw_X11_75 (Or.inr ⟨_, _, _, rfl, rfl⟩) (v := .int 0) rfl rfl ⟨_, rfl, ⟨by decide, by decide⟩⟩ dX11_out_2 (fun f54 H locs h tf54 of54 hq ha_ hn_ hk_ => ?_)
  have k55 := NGs.pk hNG hk_ (by decide) (by decide)
  have k56 := ha_
  refine lv_aload_n hx hb dX11_out_5 rfl (lv_at hl 0 rfl) ?_
  refine lv_iload_n hx hb dX11_out_6 rfl (lv_at hl 1 rfl) ?_
  obtain ⟨_, r57⟩ := t_rec tf54 hu0 (by decide) wf_60
  refine k_i (r_V C h hl (As := [.int u1]) (rest := []) (s_X11_isSet l D G b0 τ f54 tf54 u0 hu0 u1 hu1) r57 (Cn := RX11) (T := TX11) (N := 32) rfl rfl mk_X11_isSet w_1620 w_1622 w_51 w_1623 ⟨Nat.le_of_ble_eq_true rfl, Nat.le_of_ble_eq_true rfl⟩ rfl (Nat.le_of_ble_eq_true rfl) ⟨Nat.le_of_ble_eq_true rfl, Nat.le_of_ble_eq_true rfl⟩ rfl dX11_out_7) h (fun r58 f59 H locs p60 h => ?_)
  obtain ⟨ir58, tf59, ogf59, cnr58⟩ := p60
  have egf59 := Fr.nil2 ogf59
  subst egf59
  refine lv_if_eq (tgt := 20) hx hb dX11_out_10 (by decide) (fun c61 => ?_) (fun c61 => ?_)
  · have c62 : r58.toInt = 0 := congrArg Int32.toInt c61
    have i63 : iv r58 0 0 := iv_Q c62 ir58 (iv_k (x := 0) (k := 0) rfl) (by decide)
    refine lv_iconst (v := -1) hx hb dX11_out_20 (by decide) ?_
    exact u_iret C h hr hQ (⟨⟨by decide, by decide⟩, tf54, of54, k55⟩) (Nat.le_of_ble_eq_true rfl) (Nat.le_of_ble_eq_true rfl) dX11_out_21
  · have c64 : r58.toInt ≠ 0 := fun z_ => c61 (Int32.toInt_inj.mp z_)
    have i65 : iv r58 1 1 := iv_Nl c64 ir58 (by decide)
    have i66 := cnr58 c64
    refine lv_iload_n hx hb dX11_out_13 rfl (lv_at hl 2 rfl) ?_
    refine k_i (r_S C h hl (As := [.int u2]) (rest := []) (s_X11_isLong l D G b0 τ f54 tf54 u2 hu2) mk_X11_isLong w_1689 w_1690 w_1691 ⟨Nat.le_of_ble_eq_true rfl, Nat.le_of_ble_eq_true rfl⟩ rfl (Nat.le_of_ble_eq_true rfl) ⟨Nat.le_of_ble_eq_true rfl, Nat.le_of_ble_eq_true rfl⟩ rfl dX11_out_14) h (fun r67 f68 H locs p69 h => ?_)
    obtain ⟨ir67, tf68, ogf68, cnr67⟩ := p69
    have egf68 := Fr.nil2 ogf68
    subst egf68
    refine lv_if_ne (tgt := 22) hx hb dX11_out_17 (by decide) (fun c70 => ?_) (fun c70 => ?_)
    · have c71 : r67.toInt ≠ 0 := fun z_ => c70 (Int32.toInt_inj.mp z_)
      have i72 : iv r67 1 1 := iv_Nl c71 ir67 (by decide)
      have i73 := cnr67 c71
      refine lv_aload_n hx hb dX11_out_22 rfl (lv_at hl 0 rfl) ?_
      refine lv_iload_n hx hb dX11_out_23 rfl (lv_at hl 1 rfl) ?_
      refine lv_iconst (v := 0) hx hb dX11_out_24 (by decide) ?_
      refine lv_iconst (v := 1) hx hb dX11_out_25 (by decide) ?_
      refine lv_iload_n hx hb dX11_out_26 rfl (lv_at hl 2 rfl) ?_
      obtain ⟨_, r76⟩ := t_rec tf54 hu0 (by decide) wf_60
      refine k_v (r_V C h hl (As := [.int u1, .int 0, .int 1, .int u2]) (rest := []) (s_X11_goesOn l D G b0 τ f54 tf54 u0 hu0 u1 i66 0 (iv_w (iv_k (x := 0) (k := 0) rfl) (by decide)) 1 (iv_w (iv_k (x := 1) (k := 1) rfl) (by decide)) u2 i73 k55) r76 (Cn := RX11) (T := TX11) (N := 32) rfl rfl mk_X11_goesOn w_1698 w_1700 w_57 w_1701 ⟨Nat.le_of_ble_eq_true rfl, Nat.le_of_ble_eq_true rfl⟩ rfl (Nat.le_of_ble_eq_true rfl) ⟨Nat.le_of_ble_eq_true rfl, Nat.le_of_ble_eq_true rfl⟩ rfl dX11_out_27) h (fun f78 H locs p79 h => ?_)
      have n80 : (0 : Int32).toInt = 0 := rfl
      have n81 : (1 : Int32).toInt = 1 := rfl
      obtain ⟨tf78, ogf78, ⟨gg_f78, kpu0_14f78, ipu0_14f78, rpu0_14f78⟩, ngf78⟩ := p79
      have of78 : Fr [60, 67, 60001, 60013, 60014, 60015] τ f f78 := Fr.tr of54 ogf78 (by decide) (by decide)
      refine lv_lconst (v := 0) hx hb dX11_out_30 (by decide) ?_
      refine lv_lstore_n (lv' := [(3, .long 0), (0, .ref u0), (1, .int u1), (2, .int u2)]) hx hb dX11_out_31 rfl hl (by decide) rfl (fun ls hl => ?_)
      refine lv_iconst (v := 0) hx hb dX11_out_32 (by decide) ?_
      refine lv_istore (lv' := [(5, .int 0), (3, .long 0), (0, .ref u0), (1, .int u1), (2, .int u2)]) hx hb dX11_out_33 hl (by decide) rfl (fun ls hl => ?_)
      exact L35 76 ls f78 H locs 0 0 gg_f78 (by decide) (lv_cons hl 2 rfl (lv_cons hl 3 rfl (lv_cons hl 1 rfl (lv_cons hl 0 rfl (lv_nil hl))))) h tf78 of78 i66 ⟨by decide, by decide⟩ ipu0_14f78 ngf78 kpu0_14f78
    · have c74 : r67.toInt = 0 := congrArg Int32.toInt c70
      have i75 : iv r67 0 0 := iv_Q c74 ir67 (iv_k (x := 0) (k := 0) rfl) (by decide)
      refine lv_iconst (v := -1) hx hb dX11_out_20 (by decide) ?_
      exact u_iret C h hr hQ (⟨⟨by decide, by decide⟩, tf54, of54, k55⟩) (Nat.le_of_ble_eq_true rfl) (Nat.le_of_ble_eq_true rfl) dX11_out_21
abbrev rm_s_X11_arches : Room := { frames := 4, cells := 0, slots := 0, locals := 100 }
set_option maxRecDepth 100000 in
set_option maxHeartbeats 4000000 in
theorem s_X11_arches (l : Launch) (D : va_G) (G : Nat → Nat) (b0 : Nat) (τ : Nat → Nat) (f : hM) (t : TI G 9 τ f) (u0 : Nat) (hu0 : τ u0 = 60) (u1 : Int32) (hu1 : iv u1 (-2147483648) 2147483647) (u2 : Int32) (hu2 : iv u2 (-2147483648) 2147483647) (hNG : NGs τ f u0) : mI l yX11_arches cX11_arches 7 (.int) rm_s_X11_arches D G b0 f [.ref u0, .int u1, .int u2] (fun r f1 => iv r (-2147483648) 2147483647 ∧ TI G 9 τ f1 ∧ Fr [60, 67, 69, 78, 60001, 60013, 60014, 60015] τ f f1 ∧ NGs τ f1 u0) := by
  refine met2 (own := RX11) (by decide) rfl (Nat.le_of_ble_eq_true rfl) ?_
  intro p e s m args below meth c ls Q hQ C hr hini hl h
  have hl : lv_has ls 7 [(0, .ref u0), (1, .int u1), (2, .int u2)] := hl
  obtain ⟨hx, hb, hml, hown, hts, hE0, hlk⟩ := id C
  have o := Fr.rf [60, 67, 69, 78, 60001, 60013, 60014, 60015] τ f
  have L41 : ∀ (n41 : Nat) (ls : Array Slot) (f_41 : hM) (H : Heap) (locs : List Loc) (v41_3 : Int32), 61 - v41_3.toInt < (n41 : Int) → lv_has ls 7 [(0, .ref u0), (2, .int u2), (3, .int v41_3)] → hw D b0 s.heap f_41 H locs → TI G 9 τ f_41 → Fr [60, 67, 69, 78, 60001, 60013, 60014, 60015] τ f f_41 → iv u2 1 60 → iv v41_3 1 61 → NGs τ f_41 u0 → W p l e rm_s_X11_arches s m args below meth c H locs 0 0 Q (F0 m 41 ls []) := by
    intro n41
    induction n41 with
    | zero => intro ls f_41 H locs v41_3 hm41 hl h t_41 o_41 jv41_2 iv41_3 k41_u0_NG; exact absurd hm41 (by omega)
    | succ n41 ih41 =>
      intro ls f_41 H locs v41_3 hm41 hl h t_41 o_41 jv41_2 iv41_3 k41_u0_NG
      have L58 : ∀ (n58 : Nat) (ls : Array Slot) (f_58 : hM) (H : Heap) (locs : List Loc) (v58_4 : Int64) (v58_6 : Int32), 60 - v58_6.toInt < (n58 : Int) → lv_has ls 7 [(0, .ref u0), (2, .int u2), (3, .int v41_3), (4, .long v58_4), (6, .int v58_6)] → hw D b0 s.heap f_58 H locs → TI G 9 τ f_58 → Fr [60, 67, 69, 78, 60001, 60013, 60014, 60015] τ f f_58 → iv v41_3 1 60 → iv v58_6 1 60 → NGs τ f_58 u0 → W p l e rm_s_X11_arches s m args below meth c H locs 0 0 Q (F0 m 58 ls []) := by
        intro n58
        induction n58 with
        | zero => intro ls f_58 H locs v58_4 v58_6 hm58 hl h t_58 o_58 jv58_3 iv58_6 k58_u0_NG; exact absurd hm58 (by omega)
        | succ n58 ih58 =>
          intro ls f_58 H locs v58_4 v58_6 hm58 hl h t_58 o_58 jv58_3 iv58_6 k58_u0_NG
          refine lv_iload hx hb dX11_arches_58 (lv_at hl 4 rfl) ?_
          refine lv_iload_n hx hb dX11_arches_60 rfl (lv_at hl 2 rfl) ?_
          refine lv_icmp_ge (tgt := 102) hx hb dX11_arches_61 (by decide) (fun c1 => ?_) (fun c1 => ?_)
          · have c2 : v41_3.toInt ≤ v58_6.toInt := Int32.le_iff_toInt_le.mp c1
            refine lv_aload_n hx hb dX11_arches_102 rfl (lv_at hl 0 rfl) ?_
            refine t_getr (tq := 78) C h t_58 hu0 (by decide) wf_60 rfl fl_X11_39 dX11_arches_103 (fun q6 tq6 => ?_)
            refine lv_iload_n hx hb dX11_arches_106 rfl (lv_at hl 2 rfl) ?_
            refine lv_lload hx hb dX11_arches_107 (lv_at hl 3 rfl) ?_
            refine lv_ldc2 (v := 1000003) hx hb hown (hts _ w_1719) dX11_arches_109 ?_
            refine lv_lrem hx hb dX11_arches_112 (by decide) (i_topl (lrem_iv (k := 1000003) rfl (by decide) (lo := -1000002) (hi := 1000002) (by decide)) (fun w7 ew7 iw7 => ?_))
            refine lv_l2i hx hb dX11_arches_113 rfl (i_top (iv_l2i iw7 (by decide)) (fun z8 ez8 iz8 => ?_))
            refine t_iast C h t_58 o_58 tq6 (by decide) (by decide) wf_78 fw_78 (iv_in jv58_3 (by decide)) (iv_w iz8 (by decide)) dX11_arches_114 (fun f9 H locs h tf9 of9 hq => ?_)
            have k10 := NGs.tg k58_u0_NG hq hu0 (by decide)
            refine i_inc hx hb dX11_arches_115 hl (k := 2) rfl jv58_3 rfl (lo := 2) (hi := 61) (by decide) (by decide) (lv' := fun v => [(3, .int v), (0, .ref u0), (2, .int u2), (4, .long v58_4), (6, .int v58_6)]) (fun _ => rfl) (fun z11 ls ez11 mz11 iz11 hl => ?_)
            refine lv_goto (tgt := 41) hx hb dX11_arches_118 (by decide) ?_
            exact ih41 ls f9 H locs z11 (show 61 - z11.toInt < _ by omega) (lv_cons hl 1 rfl (lv_cons hl 2 rfl (lv_cons hl 0 rfl (lv_nil hl)))) h tf9 of9 jv41_2 (iv_w iz11 (by decide)) k10
          · have c3 : v58_6.toInt < v41_3.toInt := Int32.lt_iff_toInt_lt.mp (iv_nle c1)
            have i4 : iv v58_6 1 59 := iv_Ll c3 iv58_6 jv58_3 (by decide)
            have i5 : iv v41_3 2 60 := iv_Lr c3 iv58_6 jv58_3 (by decide)
            refine lv_lload hx hb dX11_arches_64 (lv_at hl 3 rfl) ?_
            refine lv_ldcw (v := 1000003) hx hb hown (hts _ w_1761) dX11_arches_66 ?_
            refine lv_aload_n hx hb dX11_arches_69 rfl (lv_at hl 0 rfl) ?_
            refine t_getr (tq := 78) C h t_58 hu0 (by decide) wf_60 rfl fl_X11_39 dX11_arches_70 (fun q12 tq12 => ?_)
            refine lv_iload hx hb dX11_arches_73 (lv_at hl 4 rfl) ?_
            refine t_iald C h t_58 tq12 (by decide) wf_78 (iv_in i4 (by decide)) dX11_arches_75 (fun z13 iz13 => ?_)
            refine lv_isub hx hb dX11_arches_76 (i_top (iv_any _) (fun z14 ez14 iz14 => ?_))
            refine lv_i2l hx hb dX11_arches_77 rfl (i_topL iz14 (fun w15 ew15 mw15 iw15 => ?_))
            refine lv_aload_n hx hb dX11_arches_78 rfl (lv_at hl 0 rfl) ?_
            refine t_getr (tq := 69) C h t_58 hu0 (by decide) wf_60 rfl fl_X11_36 dX11_arches_79 (fun q16 tq16 => ?_)
            refine lv_iload_n hx hb dX11_arches_82 rfl (lv_at hl 2 rfl) ?_
            refine lv_iload hx hb dX11_arches_83 (lv_at hl 4 rfl) ?_
            refine i_sub hx hb dX11_arches_85 i5 i4 (lo := (-57)) (hi := 59) (by decide) (fun z17 ez17 mz17 iz17 => ?_)
            refine t_iald C h t_58 tq16 (by decide) wf_69 (ix_o (by omega)) dX11_arches_86 (fun z18 iz18 => ?_)
            refine lv_i2l hx hb dX11_arches_87 rfl (i_topL iz18 (fun w19 ew19 mw19 iw19 => ?_))
            refine lv_lmul hx hb dX11_arches_88 (lv_topl (fun w20 ew20 => ?_))
            refine lv_ldc2 (v := 1000003) hx hb hown (hts _ w_1719) dX11_arches_89 ?_
            refine lv_lrem hx hb dX11_arches_92 (by decide) (i_topl (lrem_iv (k := 1000003) rfl (by decide) (lo := -1000002) (hi := 1000002) (by decide)) (fun w21 ew21 iw21 => ?_))
            refine lv_ladd hx hb dX11_arches_93 (lv_topl (fun w22 ew22 => ?_))
            refine lv_lstore (lv' := [(4, .long w22), (0, .ref u0), (2, .int u2), (3, .int v41_3), (6, .int v58_6)]) hx hb dX11_arches_94 hl (by decide) rfl (fun ls hl => ?_)
            refine i_inc hx hb dX11_arches_96 hl (k := 4) rfl i4 rfl (lo := 2) (hi := 60) (by decide) (by decide) (lv' := fun v => [(6, .int v), (4, .long w22), (0, .ref u0), (2, .int u2), (3, .int v41_3)]) (fun _ => rfl) (fun z23 ls ez23 mz23 iz23 hl => ?_)
            refine lv_goto (tgt := 58) hx hb dX11_arches_99 (by decide) ?_
            exact ih58 ls f_58 H locs w22 z23 (show 60 - z23.toInt < _ by omega) (lv_cons hl 2 rfl (lv_cons hl 3 rfl (lv_cons hl 4 rfl (lv_cons hl 1 rfl (lv_cons hl 0 rfl (lv_nil hl)))))) h t_58 o_58 (iv_w i5 (by decide)) (iv_w iz23 (by decide)) k58_u0_NG
      refine lv_iload_n hx hb dX11_arches_41 rfl (lv_at hl 2 rfl) ?_
      refine lv_iload_n hx hb dX11_arches_42 rfl (lv_at hl 1 rfl) ?_
      refine lv_icmp_gt (tgt := 121) hx hb dX11_arches_43 (by decide) (fun c24 => ?_) (fun c24 => ?_)
      · have c25 : u2.toInt < v41_3.toInt := Int32.lt_iff_toInt_lt.mp c24
        have i26 : iv v41_3 2 61 := iv_Lr c25 jv41_2 iv41_3 (by decide)
        refine lv_aload_n hx hb dX11_arches_121 rfl (lv_at hl 0 rfl) ?_
        refine t_getr (tq := 78) C h t_41 hu0 (by decide) wf_60 rfl fl_X11_39 dX11_arches_122 (fun q29 tq29 => ?_)
        refine lv_iload_n hx hb dX11_arches_125 rfl (lv_at hl 1 rfl) ?_
        refine t_iald C h t_41 tq29 (by decide) wf_78 (iv_in jv41_2 (by decide)) dX11_arches_126 (fun z30 iz30 => ?_)
        exact u_iret C h hr hQ (⟨iz30, t_41, o_41, k41_u0_NG⟩) (Nat.le_of_ble_eq_true rfl) (Nat.le_of_ble_eq_true rfl) dX11_arches_127
      · have c27 : v41_3.toInt ≤ u2.toInt := Int32.le_iff_toInt_le.mp (iv_nlt c24)
        have i28 : iv v41_3 1 60 := iv_El c27 iv41_3 jv41_2 (by decide)
        refine lv_aload_n hx hb dX11_arches_46 rfl (lv_at hl 0 rfl) ?_
        refine t_getr (tq := 69) C h t_41 hu0 (by decide) wf_60 rfl fl_X11_36 dX11_arches_47 (fun q31 tq31 => ?_)
        refine lv_iload_n hx hb dX11_arches_50 rfl (lv_at hl 2 rfl) ?_
        refine t_iald C h t_41 tq31 (by decide) wf_69 (iv_in i28 (by decide)) dX11_arches_51 (fun z32 iz32 => ?_)
        refine lv_i2l hx hb dX11_arches_52 rfl (i_topL iz32 (fun w33 ew33 mw33 iw33 => ?_))
        refine lv_lstore (lv' := [(4, .long w33), (0, .ref u0), (2, .int u2), (3, .int v41_3)]) hx hb dX11_arches_53 hl (by decide) rfl (fun ls hl => ?_)
        refine lv_iconst (v := 1) hx hb dX11_arches_55 (by decide) ?_
        refine lv_istore (lv' := [(6, .int 1), (4, .long w33), (0, .ref u0), (2, .int u2), (3, .int v41_3)]) hx hb dX11_arches_56 hl (by decide) rfl (fun ls hl => ?_)
        exact L58 60 ls f_41 H locs w33 1 (by decide) (lv_cons hl 2 rfl (lv_cons hl 3 rfl (lv_cons hl 4 rfl (lv_cons hl 1 rfl (lv_cons hl 0 rfl (lv_nil hl)))))) h t_41 o_41 i28 ⟨by decide, by decide⟩ k41_u0_NG
  refine lv_aload_n hx hb dX11_arches_0 rfl (lv_at hl 0 rfl) ?_
  refine lv_iconst (v := 0) hx hb dX11_arches_1 (by decide) ?_
  refine t_put C h t o hu0 (by decide) (by decide) (by decide) wf_60 fw_60 (k := 0) rfl flw_X11_75 (Or.inr ⟨_, _, _, rfl, rfl⟩) (v := .int 0) rfl rfl ⟨_, rfl, ⟨by decide, by decide⟩⟩ dX11_arches_2 (fun f34 H locs h tf34 of34 hq ha_ hn_ hk_ => ?_)
  have k35 := NGs.pk hNG hk_ (by decide) (by decide)
  have k36 := ha_
  refine lv_aload_n hx hb dX11_arches_5 rfl (lv_at hl 0 rfl) ?_
  refine lv_iload_n hx hb dX11_arches_6 rfl (lv_at hl 1 rfl) ?_
  obtain ⟨_, r37⟩ := t_rec tf34 hu0 (by decide) wf_60
  refine k_i (r_V C h hl (As := [.int u1]) (rest := []) (s_X11_isSet l D G b0 τ f34 tf34 u0 hu0 u1 hu1) r37 (Cn := RX11) (T := TX11) (N := 32) rfl rfl mk_X11_isSet w_1620 w_1622 w_51 w_1623 ⟨Nat.le_of_ble_eq_true rfl, Nat.le_of_ble_eq_true rfl⟩ rfl (Nat.le_of_ble_eq_true rfl) ⟨Nat.le_of_ble_eq_true rfl, Nat.le_of_ble_eq_true rfl⟩ rfl dX11_arches_7) h (fun r38 f39 H locs p40 h => ?_)
  obtain ⟨ir38, tf39, ogf39, cnr38⟩ := p40
  have egf39 := Fr.nil2 ogf39
  subst egf39
  refine lv_if_eq (tgt := 25) hx hb dX11_arches_10 (by decide) (fun c41 => ?_) (fun c41 => ?_)
  · have c42 : r38.toInt = 0 := congrArg Int32.toInt c41
    have i43 : iv r38 0 0 := iv_Q c42 ir38 (iv_k (x := 0) (k := 0) rfl) (by decide)
    refine lv_iconst (v := -1) hx hb dX11_arches_25 (by decide) ?_
    exact u_iret C h hr hQ (⟨⟨by decide, by decide⟩, tf34, of34, k35⟩) (Nat.le_of_ble_eq_true rfl) (Nat.le_of_ble_eq_true rfl) dX11_arches_26
  · have c44 : r38.toInt ≠ 0 := fun z_ => c41 (Int32.toInt_inj.mp z_)
    have i45 : iv r38 1 1 := iv_Nl c44 ir38 (by decide)
    have i46 := cnr38 c44
    refine lv_iload_n hx hb dX11_arches_13 rfl (lv_at hl 2 rfl) ?_
    refine lv_i2l hx hb dX11_arches_14 rfl (i_topL hu2 (fun w47 ew47 mw47 iw47 => ?_))
    refine lv_lconst (v := 1) hx hb dX11_arches_15 (by decide) ?_
    refine lv_ldc2 (v := 60) hx hb hown (hts _ w_1692) dX11_arches_16 ?_
    refine k_i (r_S C h hl (As := [.long w47, .long 1, .long 60]) (rest := []) (s_X11_isIn l D G b0 τ f34 tf34 w47 1 60) mk_X11_isIn w_1624 w_1625 w_1626 ⟨Nat.le_of_ble_eq_true rfl, Nat.le_of_ble_eq_true rfl⟩ rfl (Nat.le_of_ble_eq_true rfl) ⟨Nat.le_of_ble_eq_true rfl, Nat.le_of_ble_eq_true rfl⟩ rfl dX11_arches_19) h (fun r48 f49 H locs p50 h => ?_)
    have n51 : (1 : Int64).toInt = 1 := rfl
    have n52 : (60 : Int64).toInt = 60 := rfl
    obtain ⟨ir48, tf49, ogf49, cnr48⟩ := p50
    have egf49 := Fr.nil2 ogf49
    subst egf49
    refine lv_if_ne (tgt := 27) hx hb dX11_arches_22 (by decide) (fun c53 => ?_) (fun c53 => ?_)
    · have c54 : r48.toInt ≠ 0 := fun z_ => c53 (Int32.toInt_inj.mp z_)
      have i55 : iv r48 1 1 := iv_Nl c54 ir48 (by decide)
      obtain ⟨i56, i57⟩ := cnr48 c54
      have i58 : iv u2 1 60 := ⟨by omega, by omega⟩
      refine lv_aload_n hx hb dX11_arches_27 rfl (lv_at hl 0 rfl) ?_
      refine lv_iload_n hx hb dX11_arches_28 rfl (lv_at hl 1 rfl) ?_
      refine lv_iconst (v := 1) hx hb dX11_arches_29 (by decide) ?_
      refine lv_iconst (v := 0) hx hb dX11_arches_30 (by decide) ?_
      refine lv_iload_n hx hb dX11_arches_31 rfl (lv_at hl 2 rfl) ?_
      refine lv_aload_n hx hb dX11_arches_32 rfl (lv_at hl 0 rfl) ?_
      refine t_getr (tq := 69) C h tf34 hu0 (by decide) wf_60 rfl fl_X11_36 dX11_arches_33 (fun q61 tq61 => ?_)
      obtain ⟨_, r62⟩ := t_rec tf34 hu0 (by decide) wf_60
      refine k_v (r_V C h hl (As := [.int u1, .int 1, .int 0, .int u2, .ref q61]) (rest := []) (s_X11_laysTerms l D G b0 τ f34 tf34 u0 hu0 u1 i46 1 (iv_w (iv_k (x := 1) (k := 1) rfl) (by decide)) 0 (iv_w (iv_k (x := 0) (k := 0) rfl) (by decide)) u2 (iv_w i58 (by decide)) q61 tq61 k35) r62 (Cn := RX11) (T := TX11) (N := 32) rfl rfl mk_X11_laysTerms w_1757 w_1759 w_64 w_1760 ⟨Nat.le_of_ble_eq_true rfl, Nat.le_of_ble_eq_true rfl⟩ rfl (Nat.le_of_ble_eq_true rfl) ⟨Nat.le_of_ble_eq_true rfl, Nat.le_of_ble_eq_true rfl⟩ rfl dX11_arches_36) h (fun f64 H locs p65 h => ?_)
      obtain ⟨tf64, ogf64, ngf64⟩ := p65
      have of64 : Fr [60, 67, 69, 78, 60001, 60013, 60014, 60015] τ f f64 := Fr.tr of34 ogf64 (by decide) (by decide)
      refine lv_iconst (v := 1) hx hb dX11_arches_39 (by decide) ?_
      refine lv_istore_n (lv' := [(3, .int 1), (0, .ref u0), (1, .int u1), (2, .int u2)]) hx hb dX11_arches_40 rfl hl (by decide) rfl (fun ls hl => ?_)
      exact L41 61 ls f64 H locs 1 (by decide) (lv_cons hl 1 rfl (lv_cons hl 3 rfl (lv_cons hl 0 rfl (lv_nil hl)))) h tf64 of64 i58 ⟨by decide, by decide⟩ ngf64
    · have c59 : r48.toInt = 0 := congrArg Int32.toInt c53
      have i60 : iv r48 0 0 := iv_Q c59 ir48 (iv_k (x := 0) (k := 0) rfl) (by decide)
      refine lv_iconst (v := -1) hx hb dX11_arches_25 (by decide) ?_
      exact u_iret C h hr hQ (⟨⟨by decide, by decide⟩, tf34, of34, k35⟩) (Nat.le_of_ble_eq_true rfl) (Nat.le_of_ble_eq_true rfl) dX11_arches_26
abbrev rm_s_X11_value : Room := { frames := 3, cells := 0, slots := 0, locals := 83 }
set_option maxRecDepth 100000 in
set_option maxHeartbeats 4000000 in
theorem s_X11_value (l : Launch) (D : va_G) (G : Nat → Nat) (b0 : Nat) (τ : Nat → Nat) (f : hM) (t : TI G 9 τ f) (u0 : Nat) (hu0 : τ u0 = 60) (u1 : Int32) (hu1 : iv u1 (-2147483648) 2147483647) (u2 : Int32) (hu2 : iv u2 (-2147483648) 2147483647) (u3 : Int32) (hu3 : iv u3 (-2147483648) 2147483647) (u4 : Int32) (hu4 : iv u4 (-2147483648) 2147483647) (hNG : NGs τ f u0) : mI l yX11_value cX11_value 13 (.int) rm_s_X11_value D G b0 f [.ref u0, .int u1, .int u2, .int u3, .int u4] (fun r f1 => iv r (-1000002) 1000002 ∧ TI G 9 τ f1 ∧ Fr [60, 67, 60001, 60013, 60014, 60015] τ f f1 ∧ NGs τ f1 u0) := by
  refine met2 (own := RX11) (by decide) rfl (Nat.le_of_ble_eq_true rfl) ?_
  intro p e s m args below meth c ls Q hQ C hr hini hl h
  have hl : lv_has ls 13 [(0, .ref u0), (1, .int u1), (2, .int u2), (3, .int u3), (4, .int u4)] := hl
  obtain ⟨hx, hb, hml, hown, hts, hE0, hlk⟩ := id C
  have o := Fr.rf [60, 67, 60001, 60013, 60014, 60015] τ f
  have L64 : ∀ (n64 : Nat) (ls : Array Slot) (f_64 : hM) (H : Heap) (locs : List Loc) (v64_5 : Int64) (v64_7 : Int64) (v64_9 : Int32) (g64_u0_14 : Int32), 75 - v64_9.toInt < (n64 : Int) → lv_has ls 13 [(0, .ref u0), (3, .int u3), (4, .int u4), (5, .long v64_5), (7, .long v64_7), (9, .int v64_9)] → hw D b0 s.heap f_64 H locs → TI G 9 τ f_64 → Fr [60, 67, 60001, 60013, 60014, 60015] τ f f_64 → iv u3 0 1000002 → iv u4 0 1000002 → ivl v64_5 (-1000002) 1000002 → ivl v64_7 (-1000002) 1000002 → iv v64_9 0 75 → iv g64_u0_14 0 60 → NGs τ f_64 u0 → atp f_64 u0 (fd 14 (.int g64_u0_14)) → W p l e rm_s_X11_value s m args below meth c H locs 0 0 Q (F0 m 64 ls []) := by
    intro n64
    induction n64 with
    | zero => intro ls f_64 H locs v64_5 v64_7 v64_9 g64_u0_14 hm64 hl h t_64 o_64 jv64_3 jv64_4 iv64_5 iv64_7 iv64_9 ig64_u0_14 k64_u0_NG k64_u0_14; exact absurd hm64 (by omega)
    | succ n64 ih64 =>
      intro ls f_64 H locs v64_5 v64_7 v64_9 g64_u0_14 hm64 hl h t_64 o_64 jv64_3 jv64_4 iv64_5 iv64_7 iv64_9 ig64_u0_14 k64_u0_NG k64_u0_14
      have L78 : ∀ (n78 : Nat) (ls : Array Slot) (f_78 : hM) (H : Heap) (locs : List Loc) (v78_5 : Int64) (v78_10 : Int64) (v78_12 : Int32), 75 - v78_12.toInt < (n78 : Int) → lv_has ls 13 [(0, .ref u0), (3, .int u3), (4, .int u4), (5, .long v78_5), (7, .long v64_7), (9, .int v64_9), (10, .long v78_10), (12, .int v78_12)] → hw D b0 s.heap f_78 H locs → TI G 9 τ f_78 → Fr [60, 67, 60001, 60013, 60014, 60015] τ f f_78 → ivl v78_5 (-1000002) 1000002 → iv v64_9 0 74 → ivl v78_10 (-1000002) 1000002 → iv v78_12 0 75 → NGs τ f_78 u0 → atp f_78 u0 (fd 14 (.int g64_u0_14)) → W p l e rm_s_X11_value s m args below meth c H locs 0 0 Q (F0 m 78 ls []) := by
        intro n78
        induction n78 with
        | zero => intro ls f_78 H locs v78_5 v78_10 v78_12 hm78 hl h t_78 o_78 iv78_5 jv78_9 iv78_10 iv78_12 k78_u0_NG k78_u0_14; exact absurd hm78 (by omega)
        | succ n78 ih78 =>
          intro ls f_78 H locs v78_5 v78_10 v78_12 hm78 hl h t_78 o_78 iv78_5 jv78_9 iv78_10 iv78_12 k78_u0_NG k78_u0_14
          refine lv_iload hx hb dX11_value_78 (lv_at hl 7 rfl) ?_
          refine lv_bipush (v := 75) hx hb dX11_value_80 (by decide) ?_
          refine lv_icmp_ge (tgt := 127) hx hb dX11_value_82 (by decide) (fun c1 => ?_) (fun c1 => ?_)
          · have c2 : 75 ≤ v78_12.toInt := Int32.le_iff_toInt_le.mp c1
            have i3 : iv v78_12 75 75 := iv_Er c2 (iv_k (x := 75) (k := 75) rfl) iv78_12 (by decide)
            refine lv_lload hx hb dX11_value_127 (lv_at hl 4 rfl) ?_
            refine lv_iload_n hx hb dX11_value_129 rfl (lv_at hl 1 rfl) ?_
            refine lv_i2l hx hb dX11_value_130 rfl (i_topL jv64_3 (fun w6 ew6 mw6 iw6 => ?_))
            refine lv_lmul hx hb dX11_value_131 (lv_topl (fun w7 ew7 => ?_))
            refine lv_ldc2 (v := 1000003) hx hb hown (hts _ w_1719) dX11_value_132 ?_
            refine lv_lrem hx hb dX11_value_135 (by decide) (i_topl (lrem_iv (k := 1000003) rfl (by decide) (lo := -1000002) (hi := 1000002) (by decide)) (fun w8 ew8 iw8 => ?_))
            refine lv_lstore (lv' := [(7, .long w8), (0, .ref u0), (3, .int u3), (4, .int u4), (5, .long v78_5), (9, .int v64_9), (10, .long v78_10), (12, .int v78_12)]) hx hb dX11_value_136 hl (by decide) rfl (fun ls hl => ?_)
            refine i_inc hx hb dX11_value_138 hl (k := 5) rfl jv78_9 rfl (lo := 1) (hi := 75) (by decide) (by decide) (lv' := fun v => [(9, .int v), (7, .long w8), (0, .ref u0), (3, .int u3), (4, .int u4), (5, .long v78_5), (10, .long v78_10), (12, .int v78_12)]) (fun _ => rfl) (fun z9 ls ez9 mz9 iz9 hl => ?_)
            refine lv_goto (tgt := 64) hx hb dX11_value_141 (by decide) ?_
            exact ih64 ls f_78 H locs v78_5 w8 z9 g64_u0_14 (show 75 - z9.toInt < _ by omega) (lv_cons hl 2 rfl (lv_cons hl 3 rfl (lv_cons hl 4 rfl (lv_cons hl 5 rfl (lv_cons hl 1 rfl (lv_cons hl 0 rfl (lv_nil hl))))))) h t_78 o_78 jv64_3 jv64_4 (ivl_w iv78_5 (by decide)) (ivl_w iw8 (by decide)) (iv_w iz9 (by decide)) ig64_u0_14 k78_u0_NG k78_u0_14
          · have c4 : v78_12.toInt < 75 := Int32.lt_iff_toInt_lt.mp (iv_nle c1)
            have i5 : iv v78_12 0 74 := iv_Ll c4 iv78_12 (iv_k (x := 75) (k := 75) rfl) (by decide)
            refine lv_lload hx hb dX11_value_85 (lv_at hl 3 rfl) ?_
            refine lv_aload_n hx hb dX11_value_87 rfl (lv_at hl 0 rfl) ?_
            refine t_getr (tq := 67) C h t_78 hu0 (by decide) wf_60 rfl fl_X11_29 dX11_value_88 (fun q10 tq10 => ?_)
            refine lv_iload hx hb dX11_value_91 (lv_at hl 5 rfl) ?_
            refine lv_iload hx hb dX11_value_93 (lv_at hl 7 rfl) ?_
            refine k_i (r_S C h hl (As := [.int v64_9, .int v78_12]) (rest := [.ref q10, .long v78_5]) (s_X11_cell l D G b0 τ f_78 t_78 v64_9 (iv_w jv78_9 (by decide)) v78_12 (iv_w i5 (by decide))) mk_X11_cell w_1706 w_1707 w_1708 ⟨Nat.le_of_ble_eq_true rfl, Nat.le_of_ble_eq_true rfl⟩ rfl (Nat.le_of_ble_eq_true rfl) ⟨Nat.le_of_ble_eq_true rfl, Nat.le_of_ble_eq_true rfl⟩ rfl dX11_value_95) h (fun r11 f12 H locs p13 h => ?_)
            obtain ⟨ir11, tf12, ogf12, x0r11⟩ := p13
            have egf12 := Fr.nil2 ogf12
            subst egf12
            refine t_lald C h t_78 tq10 (by decide) wf_67 (iv_in ir11 (by decide)) dX11_value_98 (fun w14 => ?_)
            refine lv_lload hx hb dX11_value_99 (lv_at hl 6 rfl) ?_
            refine lv_lmul hx hb dX11_value_101 (lv_topl (fun w15 ew15 => ?_))
            refine lv_ladd hx hb dX11_value_102 (lv_topl (fun w16 ew16 => ?_))
            refine lv_ldc2 (v := 1000003) hx hb hown (hts _ w_1719) dX11_value_103 ?_
            refine lv_lrem hx hb dX11_value_106 (by decide) (i_topl (lrem_iv (k := 1000003) rfl (by decide) (lo := -1000002) (hi := 1000002) (by decide)) (fun w17 ew17 iw17 => ?_))
            refine lv_lstore (lv' := [(5, .long w17), (0, .ref u0), (3, .int u3), (4, .int u4), (7, .long v64_7), (9, .int v64_9), (10, .long v78_10), (12, .int v78_12)]) hx hb dX11_value_107 hl (by decide) rfl (fun ls hl => ?_)
            refine lv_lload hx hb dX11_value_109 (lv_at hl 6 rfl) ?_
            refine lv_iload hx hb dX11_value_111 (lv_at hl 3 rfl) ?_
            refine lv_i2l hx hb dX11_value_113 rfl (i_topL jv64_4 (fun w18 ew18 mw18 iw18 => ?_))
            refine lv_lmul hx hb dX11_value_114 (lv_topl (fun w19 ew19 => ?_))
            refine lv_ldc2 (v := 1000003) hx hb hown (hts _ w_1719) dX11_value_115 ?_
            refine lv_lrem hx hb dX11_value_118 (by decide) (i_topl (lrem_iv (k := 1000003) rfl (by decide) (lo := -1000002) (hi := 1000002) (by decide)) (fun w20 ew20 iw20 => ?_))
            refine lv_lstore (lv' := [(10, .long w20), (5, .long w17), (0, .ref u0), (3, .int u3), (4, .int u4), (7, .long v64_7), (9, .int v64_9), (12, .int v78_12)]) hx hb dX11_value_119 hl (by decide) rfl (fun ls hl => ?_)
            refine i_inc hx hb dX11_value_121 hl (k := 7) rfl i5 rfl (lo := 1) (hi := 75) (by decide) (by decide) (lv' := fun v => [(12, .int v), (10, .long w20), (5, .long w17), (0, .ref u0), (3, .int u3), (4, .int u4), (7, .long v64_7), (9, .int v64_9)]) (fun _ => rfl) (fun z21 ls ez21 mz21 iz21 hl => ?_)
            refine lv_goto (tgt := 78) hx hb dX11_value_124 (by decide) ?_
            exact ih78 ls f_78 H locs w17 w20 z21 (show 75 - z21.toInt < _ by omega) (lv_cons hl 3 rfl (lv_cons hl 4 rfl (lv_cons hl 5 rfl (lv_cons hl 2 rfl (lv_cons hl 6 rfl (lv_cons hl 7 rfl (lv_cons hl 1 rfl (lv_cons hl 0 rfl (lv_nil hl))))))))) h t_78 o_78 (ivl_w iw17 (by decide)) jv78_9 (ivl_w iw20 (by decide)) (iv_w iz21 (by decide)) k78_u0_NG k78_u0_14
      refine lv_iload hx hb dX11_value_64 (lv_at hl 5 rfl) ?_
      refine lv_bipush (v := 75) hx hb dX11_value_66 (by decide) ?_
      refine lv_icmp_ge (tgt := 144) hx hb dX11_value_68 (by decide) (fun c22 => ?_) (fun c22 => ?_)
      · have c23 : 75 ≤ v64_9.toInt := Int32.le_iff_toInt_le.mp c22
        have i24 : iv v64_9 75 75 := iv_Er c23 (iv_k (x := 75) (k := 75) rfl) iv64_9 (by decide)
        refine lv_lload hx hb dX11_value_144 (lv_at hl 3 rfl) ?_
        refine lv_l2i hx hb dX11_value_146 rfl (i_top (iv_l2i iv64_5 (by decide)) (fun z27 ez27 iz27 => ?_))
        exact u_iret C h hr hQ (⟨iz27, t_64, o_64, k64_u0_NG⟩) (Nat.le_of_ble_eq_true rfl) (Nat.le_of_ble_eq_true rfl) dX11_value_147
      · have c25 : v64_9.toInt < 75 := Int32.lt_iff_toInt_lt.mp (iv_nle c22)
        have i26 : iv v64_9 0 74 := iv_Ll c25 iv64_9 (iv_k (x := 75) (k := 75) rfl) (by decide)
        refine lv_lload hx hb dX11_value_71 (lv_at hl 4 rfl) ?_
        refine lv_lstore (lv' := [(10, .long v64_7), (0, .ref u0), (3, .int u3), (4, .int u4), (5, .long v64_5), (7, .long v64_7), (9, .int v64_9)]) hx hb dX11_value_73 hl (by decide) rfl (fun ls hl => ?_)
        refine lv_iconst (v := 0) hx hb dX11_value_75 (by decide) ?_
        refine lv_istore (lv' := [(12, .int 0), (10, .long v64_7), (0, .ref u0), (3, .int u3), (4, .int u4), (5, .long v64_5), (7, .long v64_7), (9, .int v64_9)]) hx hb dX11_value_76 hl (by decide) rfl (fun ls hl => ?_)
        exact L78 76 ls f_64 H locs v64_5 v64_7 0 (by decide) (lv_cons hl 2 rfl (lv_cons hl 3 rfl (lv_cons hl 4 rfl (lv_cons hl 5 rfl (lv_cons hl 6 rfl (lv_cons hl 7 rfl (lv_cons hl 1 rfl (lv_cons hl 0 rfl (lv_nil hl))))))))) h t_64 o_64 (ivl_w iv64_5 (by decide)) i26 (ivl_w iv64_7 (by decide)) ⟨by decide, by decide⟩ k64_u0_NG k64_u0_14
  refine lv_aload_n hx hb dX11_value_0 rfl (lv_at hl 0 rfl) ?_
  refine lv_iconst (v := 0) hx hb dX11_value_1 (by decide) ?_
  refine t_put C h t o hu0 (by decide) (by decide) (by decide) wf_60 fw_60 (k := 0) rfl flw_X11_75 (Or.inr ⟨_, _, _, rfl, rfl⟩) (v := .int 0) rfl rfl ⟨_, rfl, ⟨by decide, by decide⟩⟩ dX11_value_2 (fun f28 H locs h tf28 of28 hq ha_ hn_ hk_ => ?_)
  have k29 := NGs.pk hNG hk_ (by decide) (by decide)
  have k30 := ha_
  refine lv_aload_n hx hb dX11_value_5 rfl (lv_at hl 0 rfl) ?_
  refine lv_iload_n hx hb dX11_value_6 rfl (lv_at hl 1 rfl) ?_
  obtain ⟨_, r31⟩ := t_rec tf28 hu0 (by decide) wf_60
  refine k_i (r_V C h hl (As := [.int u1]) (rest := []) (s_X11_isSet l D G b0 τ f28 tf28 u0 hu0 u1 hu1) r31 (Cn := RX11) (T := TX11) (N := 32) rfl rfl mk_X11_isSet w_1620 w_1622 w_51 w_1623 ⟨Nat.le_of_ble_eq_true rfl, Nat.le_of_ble_eq_true rfl⟩ rfl (Nat.le_of_ble_eq_true rfl) ⟨Nat.le_of_ble_eq_true rfl, Nat.le_of_ble_eq_true rfl⟩ rfl dX11_value_7) h (fun r32 f33 H locs p34 h => ?_)
  obtain ⟨ir32, tf33, ogf33, cnr32⟩ := p34
  have egf33 := Fr.nil2 ogf33
  subst egf33
  refine lv_if_eq (tgt := 45) hx hb dX11_value_10 (by decide) (fun c35 => ?_) (fun c35 => ?_)
  · have c36 : r32.toInt = 0 := congrArg Int32.toInt c35
    have i37 : iv r32 0 0 := iv_Q c36 ir32 (iv_k (x := 0) (k := 0) rfl) (by decide)
    refine lv_iconst (v := -1) hx hb dX11_value_45 (by decide) ?_
    exact u_iret C h hr hQ (⟨⟨by decide, by decide⟩, tf28, of28, k29⟩) (Nat.le_of_ble_eq_true rfl) (Nat.le_of_ble_eq_true rfl) dX11_value_46
  · have c38 : r32.toInt ≠ 0 := fun z_ => c35 (Int32.toInt_inj.mp z_)
    have i39 : iv r32 1 1 := iv_Nl c38 ir32 (by decide)
    have i40 := cnr32 c38
    refine lv_iload_n hx hb dX11_value_13 rfl (lv_at hl 2 rfl) ?_
    refine k_i (r_S C h hl (As := [.int u2]) (rest := []) (s_X11_isLong l D G b0 τ f28 tf28 u2 hu2) mk_X11_isLong w_1689 w_1690 w_1691 ⟨Nat.le_of_ble_eq_true rfl, Nat.le_of_ble_eq_true rfl⟩ rfl (Nat.le_of_ble_eq_true rfl) ⟨Nat.le_of_ble_eq_true rfl, Nat.le_of_ble_eq_true rfl⟩ rfl dX11_value_14) h (fun r41 f42 H locs p43 h => ?_)
    obtain ⟨ir41, tf42, ogf42, cnr41⟩ := p43
    have egf42 := Fr.nil2 ogf42
    subst egf42
    refine lv_if_eq (tgt := 45) hx hb dX11_value_17 (by decide) (fun c44 => ?_) (fun c44 => ?_)
    · have c45 : r41.toInt = 0 := congrArg Int32.toInt c44
      have i46 : iv r41 0 0 := iv_Q c45 ir41 (iv_k (x := 0) (k := 0) rfl) (by decide)
      refine lv_iconst (v := -1) hx hb dX11_value_45 (by decide) ?_
      exact u_iret C h hr hQ (⟨⟨by decide, by decide⟩, tf28, of28, k29⟩) (Nat.le_of_ble_eq_true rfl) (Nat.le_of_ble_eq_true rfl) dX11_value_46
    · have c47 : r41.toInt ≠ 0 := fun z_ => c44 (Int32.toInt_inj.mp z_)
      have i48 : iv r41 1 1 := iv_Nl c47 ir41 (by decide)
      have i49 := cnr41 c47
      refine lv_iload_n hx hb dX11_value_20 rfl (lv_at hl 3 rfl) ?_
      refine lv_i2l hx hb dX11_value_21 rfl (i_topL hu3 (fun w50 ew50 mw50 iw50 => ?_))
      refine lv_lconst (v := 0) hx hb dX11_value_22 (by decide) ?_
      refine lv_ldc2 (v := 1000002) hx hb hown (hts _ w_1766) dX11_value_23 ?_
      refine k_i (r_S C h hl (As := [.long w50, .long 0, .long 1000002]) (rest := []) (s_X11_isIn l D G b0 τ f28 tf28 w50 0 1000002) mk_X11_isIn w_1624 w_1625 w_1626 ⟨Nat.le_of_ble_eq_true rfl, Nat.le_of_ble_eq_true rfl⟩ rfl (Nat.le_of_ble_eq_true rfl) ⟨Nat.le_of_ble_eq_true rfl, Nat.le_of_ble_eq_true rfl⟩ rfl dX11_value_26) h (fun r51 f52 H locs p53 h => ?_)
      have n54 : (0 : Int64).toInt = 0 := rfl
      have n55 : (1000002 : Int64).toInt = 1000002 := rfl
      obtain ⟨ir51, tf52, ogf52, cnr51⟩ := p53
      have egf52 := Fr.nil2 ogf52
      subst egf52
      refine lv_if_eq (tgt := 45) hx hb dX11_value_29 (by decide) (fun c56 => ?_) (fun c56 => ?_)
      · have c57 : r51.toInt = 0 := congrArg Int32.toInt c56
        have i58 : iv r51 0 0 := iv_Q c57 ir51 (iv_k (x := 0) (k := 0) rfl) (by decide)
        refine lv_iconst (v := -1) hx hb dX11_value_45 (by decide) ?_
        exact u_iret C h hr hQ (⟨⟨by decide, by decide⟩, tf28, of28, k29⟩) (Nat.le_of_ble_eq_true rfl) (Nat.le_of_ble_eq_true rfl) dX11_value_46
      · have c59 : r51.toInt ≠ 0 := fun z_ => c56 (Int32.toInt_inj.mp z_)
        have i60 : iv r51 1 1 := iv_Nl c59 ir51 (by decide)
        obtain ⟨i61, i62⟩ := cnr51 c59
        have i63 : iv u3 0 1000002 := ⟨by omega, by omega⟩
        refine lv_iload hx hb dX11_value_32 (lv_at hl 4 rfl) ?_
        refine lv_i2l hx hb dX11_value_34 rfl (i_topL hu4 (fun w64 ew64 mw64 iw64 => ?_))
        refine lv_lconst (v := 0) hx hb dX11_value_35 (by decide) ?_
        refine lv_ldc2 (v := 1000002) hx hb hown (hts _ w_1766) dX11_value_36 ?_
        refine k_i (r_S C h hl (As := [.long w64, .long 0, .long 1000002]) (rest := []) (s_X11_isIn l D G b0 τ f28 tf28 w64 0 1000002) mk_X11_isIn w_1624 w_1625 w_1626 ⟨Nat.le_of_ble_eq_true rfl, Nat.le_of_ble_eq_true rfl⟩ rfl (Nat.le_of_ble_eq_true rfl) ⟨Nat.le_of_ble_eq_true rfl, Nat.le_of_ble_eq_true rfl⟩ rfl dX11_value_39) h (fun r65 f66 H locs p67 h => ?_)
        have n68 : (0 : Int64).toInt = 0 := rfl
        have n69 : (1000002 : Int64).toInt = 1000002 := rfl
        obtain ⟨ir65, tf66, ogf66, cnr65⟩ := p67
        have egf66 := Fr.nil2 ogf66
        subst egf66
        refine lv_if_ne (tgt := 47) hx hb dX11_value_42 (by decide) (fun c70 => ?_) (fun c70 => ?_)
        · have c71 : r65.toInt ≠ 0 := fun z_ => c70 (Int32.toInt_inj.mp z_)
          have i72 : iv r65 1 1 := iv_Nl c71 ir65 (by decide)
          obtain ⟨i73, i74⟩ := cnr65 c71
          have i75 : iv u4 0 1000002 := ⟨by omega, by omega⟩
          refine lv_aload_n hx hb dX11_value_47 rfl (lv_at hl 0 rfl) ?_
          refine lv_iload_n hx hb dX11_value_48 rfl (lv_at hl 1 rfl) ?_
          refine lv_iconst (v := 0) hx hb dX11_value_49 (by decide) ?_
          refine lv_iconst (v := 1) hx hb dX11_value_50 (by decide) ?_
          refine lv_iload_n hx hb dX11_value_51 rfl (lv_at hl 2 rfl) ?_
          obtain ⟨_, r78⟩ := t_rec tf28 hu0 (by decide) wf_60
          refine k_v (r_V C h hl (As := [.int u1, .int 0, .int 1, .int u2]) (rest := []) (s_X11_goesOn l D G b0 τ f28 tf28 u0 hu0 u1 i40 0 (iv_w (iv_k (x := 0) (k := 0) rfl) (by decide)) 1 (iv_w (iv_k (x := 1) (k := 1) rfl) (by decide)) u2 i49 k29) r78 (Cn := RX11) (T := TX11) (N := 32) rfl rfl mk_X11_goesOn w_1698 w_1700 w_57 w_1701 ⟨Nat.le_of_ble_eq_true rfl, Nat.le_of_ble_eq_true rfl⟩ rfl (Nat.le_of_ble_eq_true rfl) ⟨Nat.le_of_ble_eq_true rfl, Nat.le_of_ble_eq_true rfl⟩ rfl dX11_value_52) h (fun f80 H locs p81 h => ?_)
          have n82 : (0 : Int32).toInt = 0 := rfl
          have n83 : (1 : Int32).toInt = 1 := rfl
          obtain ⟨tf80, ogf80, ⟨gg_f80, kpu0_14f80, ipu0_14f80, rpu0_14f80⟩, ngf80⟩ := p81
          have of80 : Fr [60, 67, 60001, 60013, 60014, 60015] τ f f80 := Fr.tr of28 ogf80 (by decide) (by decide)
          refine lv_lconst (v := 0) hx hb dX11_value_55 (by decide) ?_
          refine lv_lstore (lv' := [(5, .long 0), (0, .ref u0), (1, .int u1), (2, .int u2), (3, .int u3), (4, .int u4)]) hx hb dX11_value_56 hl (by decide) rfl (fun ls hl => ?_)
          refine lv_lconst (v := 1) hx hb dX11_value_58 (by decide) ?_
          refine lv_lstore (lv' := [(7, .long 1), (5, .long 0), (0, .ref u0), (1, .int u1), (2, .int u2), (3, .int u3), (4, .int u4)]) hx hb dX11_value_59 hl (by decide) rfl (fun ls hl => ?_)
          refine lv_iconst (v := 0) hx hb dX11_value_61 (by decide) ?_
          refine lv_istore (lv' := [(9, .int 0), (7, .long 1), (5, .long 0), (0, .ref u0), (1, .int u1), (2, .int u2), (3, .int u3), (4, .int u4)]) hx hb dX11_value_62 hl (by decide) rfl (fun ls hl => ?_)
          exact L64 76 ls f80 H locs 0 1 0 gg_f80 (by decide) (lv_cons hl 3 rfl (lv_cons hl 6 rfl (lv_cons hl 7 rfl (lv_cons hl 2 rfl (lv_cons hl 1 rfl (lv_cons hl 0 rfl (lv_nil hl))))))) h tf80 of80 i63 i75 (ivl_w (ivl_k (x := 0) (k := 0) rfl) (by decide)) (ivl_w (ivl_k (x := 1) (k := 1) rfl) (by decide)) ⟨by decide, by decide⟩ ipu0_14f80 ngf80 kpu0_14f80
        · have c76 : r65.toInt = 0 := congrArg Int32.toInt c70
          have i77 : iv r65 0 0 := iv_Q c76 ir65 (iv_k (x := 0) (k := 0) rfl) (by decide)
          refine lv_iconst (v := -1) hx hb dX11_value_45 (by decide) ?_
          exact u_iret C h hr hQ (⟨⟨by decide, by decide⟩, tf28, of28, k29⟩) (Nat.le_of_ble_eq_true rfl) (Nat.le_of_ble_eq_true rfl) dX11_value_46
abbrev rm_s_X11_convolved : Room := { frames := 4, cells := 0, slots := 0, locals := 100 }
set_option maxRecDepth 100000 in
set_option maxHeartbeats 4000000 in
theorem s_X11_convolved (l : Launch) (D : va_G) (G : Nat → Nat) (b0 : Nat) (τ : Nat → Nat) (f : hM) (t : TI G 9 τ f) (u0 : Nat) (hu0 : τ u0 = 60) (u1 : Int32) (hu1 : iv u1 (-2147483648) 2147483647) (u2 : Int32) (hu2 : iv u2 (-2147483648) 2147483647) (u3 : Int32) (hu3 : iv u3 (-2147483648) 2147483647) (u4 : Int32) (hu4 : iv u4 (-2147483648) 2147483647) (u5 : Int32) (hu5 : iv u5 (-2147483648) 2147483647) (hNG : NGs τ f u0) : mI l yX11_convolved cX11_convolved 9 (.int) rm_s_X11_convolved D G b0 f [.ref u0, .int u1, .int u2, .int u3, .int u4, .int u5] (fun r f1 => iv r (-1000002) 1000002 ∧ TI G 9 τ f1 ∧ Fr [60, 67, 69, 78, 60001, 60013, 60014, 60015] τ f f1 ∧ NGs τ f1 u0) := by
  refine met2 (own := RX11) (by decide) rfl (Nat.le_of_ble_eq_true rfl) ?_
  intro p e s m args below meth c ls Q hQ C hr hini hl h
  have hl : lv_has ls 9 [(0, .ref u0), (1, .int u1), (2, .int u2), (3, .int u3), (4, .int u4), (5, .int u5)] := hl
  obtain ⟨hx, hb, hml, hown, hts, hE0, hlk⟩ := id C
  have o := Fr.rf [60, 67, 69, 78, 60001, 60013, 60014, 60015] τ f
  have L89 : ∀ (n89 : Nat) (ls : Array Slot) (f_89 : hM) (H : Heap) (locs : List Loc) (v89_6 : Int64) (v89_8 : Int32), 61 - v89_8.toInt < (n89 : Int) → lv_has ls 9 [(0, .ref u0), (5, .int u5), (6, .long v89_6), (8, .int v89_8)] → hw D b0 s.heap f_89 H locs → TI G 9 τ f_89 → Fr [60, 67, 69, 78, 60001, 60013, 60014, 60015] τ f f_89 → iv u5 0 60 → iv v89_8 0 61 → NGs τ f_89 u0 → W p l e rm_s_X11_convolved s m args below meth c H locs 0 0 Q (F0 m 89 ls []) := by
    intro n89
    induction n89 with
    | zero => intro ls f_89 H locs v89_6 v89_8 hm89 hl h t_89 o_89 jv89_5 iv89_8 k89_u0_NG; exact absurd hm89 (by omega)
    | succ n89 ih89 =>
      intro ls f_89 H locs v89_6 v89_8 hm89 hl h t_89 o_89 jv89_5 iv89_8 k89_u0_NG
      refine lv_iload hx hb dX11_convolved_89 (lv_at hl 3 rfl) ?_
      refine lv_iload hx hb dX11_convolved_91 (lv_at hl 1 rfl) ?_
      refine lv_icmp_gt (tgt := 131) hx hb dX11_convolved_93 (by decide) (fun c1 => ?_) (fun c1 => ?_)
      · have c2 : u5.toInt < v89_8.toInt := Int32.lt_iff_toInt_lt.mp c1
        have i3 : iv v89_8 1 61 := iv_Lr c2 jv89_5 iv89_8 (by decide)
        refine lv_lload hx hb dX11_convolved_131 (lv_at hl 2 rfl) ?_
        refine lv_ldc2 (v := 1000003) hx hb hown (hts _ w_1719) dX11_convolved_133 ?_
        refine lv_lrem hx hb dX11_convolved_136 (by decide) (i_topl (lrem_iv (k := 1000003) rfl (by decide) (lo := -1000002) (hi := 1000002) (by decide)) (fun w6 ew6 iw6 => ?_))
        refine lv_l2i hx hb dX11_convolved_137 rfl (i_top (iv_l2i iw6 (by decide)) (fun z7 ez7 iz7 => ?_))
        exact u_iret C h hr hQ (⟨iz7, t_89, o_89, k89_u0_NG⟩) (Nat.le_of_ble_eq_true rfl) (Nat.le_of_ble_eq_true rfl) dX11_convolved_138
      · have c4 : v89_8.toInt ≤ u5.toInt := Int32.le_iff_toInt_le.mp (iv_nlt c1)
        have i5 : iv v89_8 0 60 := iv_El c4 iv89_8 jv89_5 (by decide)
        refine lv_lload hx hb dX11_convolved_96 (lv_at hl 2 rfl) ?_
        refine lv_aload_n hx hb dX11_convolved_98 rfl (lv_at hl 0 rfl) ?_
        refine t_getr (tq := 69) C h t_89 hu0 (by decide) wf_60 rfl fl_X11_36 dX11_convolved_99 (fun q8 tq8 => ?_)
        refine lv_iload hx hb dX11_convolved_102 (lv_at hl 3 rfl) ?_
        refine t_iald C h t_89 tq8 (by decide) wf_69 (iv_in i5 (by decide)) dX11_convolved_104 (fun z9 iz9 => ?_)
        refine lv_i2l hx hb dX11_convolved_105 rfl (i_topL iz9 (fun w10 ew10 mw10 iw10 => ?_))
        refine lv_aload_n hx hb dX11_convolved_106 rfl (lv_at hl 0 rfl) ?_
        refine t_getr (tq := 78) C h t_89 hu0 (by decide) wf_60 rfl fl_X11_39 dX11_convolved_107 (fun q11 tq11 => ?_)
        refine lv_iload hx hb dX11_convolved_110 (lv_at hl 1 rfl) ?_
        refine lv_iload hx hb dX11_convolved_112 (lv_at hl 3 rfl) ?_
        refine i_sub hx hb dX11_convolved_114 jv89_5 i5 (lo := (-60)) (hi := 60) (by decide) (fun z12 ez12 mz12 iz12 => ?_)
        refine t_iald C h t_89 tq11 (by decide) wf_78 (ix_o (by omega)) dX11_convolved_115 (fun z13 iz13 => ?_)
        refine lv_i2l hx hb dX11_convolved_116 rfl (i_topL iz13 (fun w14 ew14 mw14 iw14 => ?_))
        refine lv_lmul hx hb dX11_convolved_117 (lv_topl (fun w15 ew15 => ?_))
        refine lv_ldc2 (v := 1000003) hx hb hown (hts _ w_1719) dX11_convolved_118 ?_
        refine lv_lrem hx hb dX11_convolved_121 (by decide) (i_topl (lrem_iv (k := 1000003) rfl (by decide) (lo := -1000002) (hi := 1000002) (by decide)) (fun w16 ew16 iw16 => ?_))
        refine lv_ladd hx hb dX11_convolved_122 (lv_topl (fun w17 ew17 => ?_))
        refine lv_lstore (lv' := [(6, .long w17), (0, .ref u0), (5, .int u5), (8, .int v89_8)]) hx hb dX11_convolved_123 hl (by decide) rfl (fun ls hl => ?_)
        refine i_inc hx hb dX11_convolved_125 hl (k := 3) rfl i5 rfl (lo := 1) (hi := 61) (by decide) (by decide) (lv' := fun v => [(8, .int v), (6, .long w17), (0, .ref u0), (5, .int u5)]) (fun _ => rfl) (fun z18 ls ez18 mz18 iz18 hl => ?_)
        refine lv_goto (tgt := 89) hx hb dX11_convolved_128 (by decide) ?_
        exact ih89 ls f_89 H locs w17 z18 (show 61 - z18.toInt < _ by omega) (lv_cons hl 2 rfl (lv_cons hl 3 rfl (lv_cons hl 1 rfl (lv_cons hl 0 rfl (lv_nil hl))))) h t_89 o_89 jv89_5 (iv_w iz18 (by decide)) k89_u0_NG
  refine lv_aload_n hx hb dX11_convolved_0 rfl (lv_at hl 0 rfl) ?_
  refine lv_iconst (v := 0) hx hb dX11_convolved_1 (by decide) ?_
  refine t_put C h t o hu0 (by decide) (by decide) (by decide) wf_60 fw_60 (k := 0) rfl flw_X11_75 (Or.inr ⟨_, _, _, rfl, rfl⟩) (v := .int 0) rfl rfl ⟨_, rfl, ⟨by decide, by decide⟩⟩ dX11_convolved_2 (fun f19 H locs h tf19 of19 hq ha_ hn_ hk_ => ?_)
  have k20 := NGs.pk hNG hk_ (by decide) (by decide)
  have k21 := ha_
  refine lv_aload_n hx hb dX11_convolved_5 rfl (lv_at hl 0 rfl) ?_
  refine lv_iload_n hx hb dX11_convolved_6 rfl (lv_at hl 1 rfl) ?_
  obtain ⟨_, r22⟩ := t_rec tf19 hu0 (by decide) wf_60
  refine k_i (r_V C h hl (As := [.int u1]) (rest := []) (s_X11_isSet l D G b0 τ f19 tf19 u0 hu0 u1 hu1) r22 (Cn := RX11) (T := TX11) (N := 32) rfl rfl mk_X11_isSet w_1620 w_1622 w_51 w_1623 ⟨Nat.le_of_ble_eq_true rfl, Nat.le_of_ble_eq_true rfl⟩ rfl (Nat.le_of_ble_eq_true rfl) ⟨Nat.le_of_ble_eq_true rfl, Nat.le_of_ble_eq_true rfl⟩ rfl dX11_convolved_7) h (fun r23 f24 H locs p25 h => ?_)
  obtain ⟨ir23, tf24, ogf24, cnr23⟩ := p25
  have egf24 := Fr.nil2 ogf24
  subst egf24
  refine lv_if_eq (tgt := 54) hx hb dX11_convolved_10 (by decide) (fun c26 => ?_) (fun c26 => ?_)
  · have c27 : r23.toInt = 0 := congrArg Int32.toInt c26
    have i28 : iv r23 0 0 := iv_Q c27 ir23 (iv_k (x := 0) (k := 0) rfl) (by decide)
    refine lv_iconst (v := -1) hx hb dX11_convolved_54 (by decide) ?_
    exact u_iret C h hr hQ (⟨⟨by decide, by decide⟩, tf19, of19, k20⟩) (Nat.le_of_ble_eq_true rfl) (Nat.le_of_ble_eq_true rfl) dX11_convolved_55
  · have c29 : r23.toInt ≠ 0 := fun z_ => c26 (Int32.toInt_inj.mp z_)
    have i30 : iv r23 1 1 := iv_Nl c29 ir23 (by decide)
    have i31 := cnr23 c29
    refine lv_aload_n hx hb dX11_convolved_13 rfl (lv_at hl 0 rfl) ?_
    refine lv_iload_n hx hb dX11_convolved_14 rfl (lv_at hl 3 rfl) ?_
    obtain ⟨_, r32⟩ := t_rec tf19 hu0 (by decide) wf_60
    refine k_i (r_V C h hl (As := [.int u3]) (rest := []) (s_X11_isSet l D G b0 τ f19 tf19 u0 hu0 u3 hu3) r32 (Cn := RX11) (T := TX11) (N := 32) rfl rfl mk_X11_isSet w_1620 w_1622 w_51 w_1623 ⟨Nat.le_of_ble_eq_true rfl, Nat.le_of_ble_eq_true rfl⟩ rfl (Nat.le_of_ble_eq_true rfl) ⟨Nat.le_of_ble_eq_true rfl, Nat.le_of_ble_eq_true rfl⟩ rfl dX11_convolved_15) h (fun r33 f34 H locs p35 h => ?_)
    obtain ⟨ir33, tf34, ogf34, cnr33⟩ := p35
    have egf34 := Fr.nil2 ogf34
    subst egf34
    refine lv_if_eq (tgt := 54) hx hb dX11_convolved_18 (by decide) (fun c36 => ?_) (fun c36 => ?_)
    · have c37 : r33.toInt = 0 := congrArg Int32.toInt c36
      have i38 : iv r33 0 0 := iv_Q c37 ir33 (iv_k (x := 0) (k := 0) rfl) (by decide)
      refine lv_iconst (v := -1) hx hb dX11_convolved_54 (by decide) ?_
      exact u_iret C h hr hQ (⟨⟨by decide, by decide⟩, tf19, of19, k20⟩) (Nat.le_of_ble_eq_true rfl) (Nat.le_of_ble_eq_true rfl) dX11_convolved_55
    · have c39 : r33.toInt ≠ 0 := fun z_ => c36 (Int32.toInt_inj.mp z_)
      have i40 : iv r33 1 1 := iv_Nl c39 ir33 (by decide)
      have i41 := cnr33 c39
      refine lv_iload_n hx hb dX11_convolved_21 rfl (lv_at hl 2 rfl) ?_
      refine lv_i2l hx hb dX11_convolved_22 rfl (i_topL hu2 (fun w42 ew42 mw42 iw42 => ?_))
      refine lv_lconst (v := 0) hx hb dX11_convolved_23 (by decide) ?_
      refine lv_ldc2 (v := 4) hx hb hown (hts _ w_1730) dX11_convolved_24 ?_
      refine k_i (r_S C h hl (As := [.long w42, .long 0, .long 4]) (rest := []) (s_X11_isIn l D G b0 τ f19 tf19 w42 0 4) mk_X11_isIn w_1624 w_1625 w_1626 ⟨Nat.le_of_ble_eq_true rfl, Nat.le_of_ble_eq_true rfl⟩ rfl (Nat.le_of_ble_eq_true rfl) ⟨Nat.le_of_ble_eq_true rfl, Nat.le_of_ble_eq_true rfl⟩ rfl dX11_convolved_27) h (fun r43 f44 H locs p45 h => ?_)
      have n46 : (0 : Int64).toInt = 0 := rfl
      have n47 : (4 : Int64).toInt = 4 := rfl
      obtain ⟨ir43, tf44, ogf44, cnr43⟩ := p45
      have egf44 := Fr.nil2 ogf44
      subst egf44
      refine lv_if_eq (tgt := 54) hx hb dX11_convolved_30 (by decide) (fun c48 => ?_) (fun c48 => ?_)
      · have c49 : r43.toInt = 0 := congrArg Int32.toInt c48
        have i50 : iv r43 0 0 := iv_Q c49 ir43 (iv_k (x := 0) (k := 0) rfl) (by decide)
        refine lv_iconst (v := -1) hx hb dX11_convolved_54 (by decide) ?_
        exact u_iret C h hr hQ (⟨⟨by decide, by decide⟩, tf19, of19, k20⟩) (Nat.le_of_ble_eq_true rfl) (Nat.le_of_ble_eq_true rfl) dX11_convolved_55
      · have c51 : r43.toInt ≠ 0 := fun z_ => c48 (Int32.toInt_inj.mp z_)
        have i52 : iv r43 1 1 := iv_Nl c51 ir43 (by decide)
        obtain ⟨i53, i54⟩ := cnr43 c51
        have i55 : iv u2 0 4 := ⟨by omega, by omega⟩
        refine lv_iload hx hb dX11_convolved_33 (lv_at hl 4 rfl) ?_
        refine lv_i2l hx hb dX11_convolved_35 rfl (i_topL hu4 (fun w56 ew56 mw56 iw56 => ?_))
        refine lv_lconst (v := 0) hx hb dX11_convolved_36 (by decide) ?_
        refine lv_ldc2 (v := 4) hx hb hown (hts _ w_1730) dX11_convolved_37 ?_
        refine k_i (r_S C h hl (As := [.long w56, .long 0, .long 4]) (rest := []) (s_X11_isIn l D G b0 τ f19 tf19 w56 0 4) mk_X11_isIn w_1624 w_1625 w_1626 ⟨Nat.le_of_ble_eq_true rfl, Nat.le_of_ble_eq_true rfl⟩ rfl (Nat.le_of_ble_eq_true rfl) ⟨Nat.le_of_ble_eq_true rfl, Nat.le_of_ble_eq_true rfl⟩ rfl dX11_convolved_40) h (fun r57 f58 H locs p59 h => ?_)
        have n60 : (0 : Int64).toInt = 0 := rfl
        have n61 : (4 : Int64).toInt = 4 := rfl
        obtain ⟨ir57, tf58, ogf58, cnr57⟩ := p59
        have egf58 := Fr.nil2 ogf58
        subst egf58
        refine lv_if_eq (tgt := 54) hx hb dX11_convolved_43 (by decide) (fun c62 => ?_) (fun c62 => ?_)
        · have c63 : r57.toInt = 0 := congrArg Int32.toInt c62
          have i64 : iv r57 0 0 := iv_Q c63 ir57 (iv_k (x := 0) (k := 0) rfl) (by decide)
          refine lv_iconst (v := -1) hx hb dX11_convolved_54 (by decide) ?_
          exact u_iret C h hr hQ (⟨⟨by decide, by decide⟩, tf19, of19, k20⟩) (Nat.le_of_ble_eq_true rfl) (Nat.le_of_ble_eq_true rfl) dX11_convolved_55
        · have c65 : r57.toInt ≠ 0 := fun z_ => c62 (Int32.toInt_inj.mp z_)
          have i66 : iv r57 1 1 := iv_Nl c65 ir57 (by decide)
          obtain ⟨i67, i68⟩ := cnr57 c65
          have i69 : iv u4 0 4 := ⟨by omega, by omega⟩
          refine lv_iload hx hb dX11_convolved_46 (lv_at hl 5 rfl) ?_
          refine k_i (r_S C h hl (As := [.int u5]) (rest := []) (s_X11_isLong l D G b0 τ f19 tf19 u5 hu5) mk_X11_isLong w_1689 w_1690 w_1691 ⟨Nat.le_of_ble_eq_true rfl, Nat.le_of_ble_eq_true rfl⟩ rfl (Nat.le_of_ble_eq_true rfl) ⟨Nat.le_of_ble_eq_true rfl, Nat.le_of_ble_eq_true rfl⟩ rfl dX11_convolved_48) h (fun r70 f71 H locs p72 h => ?_)
          obtain ⟨ir70, tf71, ogf71, cnr70⟩ := p72
          have egf71 := Fr.nil2 ogf71
          subst egf71
          refine lv_if_ne (tgt := 56) hx hb dX11_convolved_51 (by decide) (fun c73 => ?_) (fun c73 => ?_)
          · have c74 : r70.toInt ≠ 0 := fun z_ => c73 (Int32.toInt_inj.mp z_)
            have i75 : iv r70 1 1 := iv_Nl c74 ir70 (by decide)
            have i76 := cnr70 c74
            refine lv_aload_n hx hb dX11_convolved_56 rfl (lv_at hl 0 rfl) ?_
            refine lv_iload_n hx hb dX11_convolved_57 rfl (lv_at hl 1 rfl) ?_
            refine lv_iload_n hx hb dX11_convolved_58 rfl (lv_at hl 2 rfl) ?_
            refine lv_iconst (v := 0) hx hb dX11_convolved_59 (by decide) ?_
            refine lv_iload hx hb dX11_convolved_60 (lv_at hl 5 rfl) ?_
            refine lv_aload_n hx hb dX11_convolved_62 rfl (lv_at hl 0 rfl) ?_
            refine t_getr (tq := 69) C h tf19 hu0 (by decide) wf_60 rfl fl_X11_36 dX11_convolved_63 (fun q79 tq79 => ?_)
            obtain ⟨_, r80⟩ := t_rec tf19 hu0 (by decide) wf_60
            refine k_v (r_V C h hl (As := [.int u1, .int u2, .int 0, .int u5, .ref q79]) (rest := []) (s_X11_laysTerms l D G b0 τ f19 tf19 u0 hu0 u1 i31 u2 (iv_w i55 (by decide)) 0 (iv_w (iv_k (x := 0) (k := 0) rfl) (by decide)) u5 i76 q79 tq79 k20) r80 (Cn := RX11) (T := TX11) (N := 32) rfl rfl mk_X11_laysTerms w_1757 w_1759 w_64 w_1760 ⟨Nat.le_of_ble_eq_true rfl, Nat.le_of_ble_eq_true rfl⟩ rfl (Nat.le_of_ble_eq_true rfl) ⟨Nat.le_of_ble_eq_true rfl, Nat.le_of_ble_eq_true rfl⟩ rfl dX11_convolved_66) h (fun f82 H locs p83 h => ?_)
            obtain ⟨tf82, ogf82, ngf82⟩ := p83
            have of82 : Fr [60, 67, 69, 78, 60001, 60013, 60014, 60015] τ f f82 := Fr.tr of19 ogf82 (by decide) (by decide)
            refine lv_aload_n hx hb dX11_convolved_69 rfl (lv_at hl 0 rfl) ?_
            refine lv_iload_n hx hb dX11_convolved_70 rfl (lv_at hl 3 rfl) ?_
            refine lv_iload hx hb dX11_convolved_71 (lv_at hl 4 rfl) ?_
            refine lv_iconst (v := 0) hx hb dX11_convolved_73 (by decide) ?_
            refine lv_iload hx hb dX11_convolved_74 (lv_at hl 5 rfl) ?_
            refine lv_aload_n hx hb dX11_convolved_76 rfl (lv_at hl 0 rfl) ?_
            refine t_getr (tq := 78) C h tf82 hu0 (by decide) wf_60 rfl fl_X11_39 dX11_convolved_77 (fun q84 tq84 => ?_)
            obtain ⟨_, r85⟩ := t_rec tf82 hu0 (by decide) wf_60
            refine k_v (r_V C h hl (As := [.int u3, .int u4, .int 0, .int u5, .ref q84]) (rest := []) (s_X11_laysTermso l D G b0 τ f82 tf82 u0 hu0 u3 i41 u4 (iv_w i69 (by decide)) 0 (iv_w (iv_k (x := 0) (k := 0) rfl) (by decide)) u5 i76 q84 tq84 ngf82) r85 (Cn := RX11) (T := TX11) (N := 32) rfl rfl mk_X11_laysTerms w_1757 w_1759 w_64 w_1760 ⟨Nat.le_of_ble_eq_true rfl, Nat.le_of_ble_eq_true rfl⟩ rfl (Nat.le_of_ble_eq_true rfl) ⟨Nat.le_of_ble_eq_true rfl, Nat.le_of_ble_eq_true rfl⟩ rfl dX11_convolved_80) h (fun f87 H locs p88 h => ?_)
            obtain ⟨tf87, ogf87, ngf87⟩ := p88
            have of87 : Fr [60, 67, 69, 78, 60001, 60013, 60014, 60015] τ f f87 := Fr.tr of82 ogf87 (by decide) (by decide)
            refine lv_lconst (v := 0) hx hb dX11_convolved_83 (by decide) ?_
            refine lv_lstore (lv' := [(6, .long 0), (0, .ref u0), (1, .int u1), (2, .int u2), (3, .int u3), (4, .int u4), (5, .int u5)]) hx hb dX11_convolved_84 hl (by decide) rfl (fun ls hl => ?_)
            refine lv_iconst (v := 0) hx hb dX11_convolved_86 (by decide) ?_
            refine lv_istore (lv' := [(8, .int 0), (6, .long 0), (0, .ref u0), (1, .int u1), (2, .int u2), (3, .int u3), (4, .int u4), (5, .int u5)]) hx hb dX11_convolved_87 hl (by decide) rfl (fun ls hl => ?_)
            exact L89 62 ls f87 H locs 0 0 (by decide) (lv_cons hl 2 rfl (lv_cons hl 7 rfl (lv_cons hl 1 rfl (lv_cons hl 0 rfl (lv_nil hl))))) h tf87 of87 i76 ⟨by decide, by decide⟩ ngf87
          · have c77 : r70.toInt = 0 := congrArg Int32.toInt c73
            have i78 : iv r70 0 0 := iv_Q c77 ir70 (iv_k (x := 0) (k := 0) rfl) (by decide)
            refine lv_iconst (v := -1) hx hb dX11_convolved_54 (by decide) ?_
            exact u_iret C h hr hQ (⟨⟨by decide, by decide⟩, tf19, of19, k20⟩) (Nat.le_of_ble_eq_true rfl) (Nat.le_of_ble_eq_true rfl) dX11_convolved_55
abbrev rm_s_X11_clears : Room := { frames := 1, cells := 0, slots := 0, locals := 21 }
set_option maxRecDepth 100000 in
set_option maxHeartbeats 4000000 in
theorem s_X11_clears (l : Launch) (D : va_G) (G : Nat → Nat) (b0 : Nat) (τ : Nat → Nat) (f : hM) (t : TI G 9 τ f) (u0 : Nat) (hu0 : τ u0 = 60) (u1 : Int32) (hu1 : iv u1 (-2147483648) 2147483647) (u2 : Int32) (hu2 : iv u2 (-2147483648) 2147483647) : mV l yX11_clears cX11_clears 5 rm_s_X11_clears D G b0 f [.ref u0, .int u1, .int u2] (fun f1 => TI G 9 τ f1 ∧ Fr [67] τ f f1) := by
  refine met2 (own := RX11) (by decide) rfl (Nat.le_of_ble_eq_true rfl) ?_
  intro p e s m args below meth c ls Q hQ C hr hini hl h
  have hl : lv_has ls 5 [(0, .ref u0), (1, .int u1), (2, .int u2)] := hl
  obtain ⟨hx, hb, hml, hown, hts, hE0, hlk⟩ := id C
  have o := Fr.rf [67] τ f
  have L2 : ∀ (n2 : Nat) (ls : Array Slot) (f_2 : hM) (H : Heap) (locs : List Loc) (v2_3 : Int32), 75 - v2_3.toInt < (n2 : Int) → lv_has ls 5 [(0, .ref u0), (1, .int u1), (2, .int u2), (3, .int v2_3)] → hw D b0 s.heap f_2 H locs → TI G 9 τ f_2 → Fr [67] τ f f_2 → iv v2_3 0 75 → W p l e rm_s_X11_clears s m args below meth c H locs 0 0 Q (F0 m 2 ls []) := by
    intro n2
    induction n2 with
    | zero => intro ls f_2 H locs v2_3 hm2 hl h t_2 o_2 iv2_3; exact absurd hm2 (by omega)
    | succ n2 ih2 =>
      intro ls f_2 H locs v2_3 hm2 hl h t_2 o_2 iv2_3
      have L11 : ∀ (n11 : Nat) (ls : Array Slot) (f_11 : hM) (H : Heap) (locs : List Loc) (v11_4 : Int32), 75 - v11_4.toInt < (n11 : Int) → lv_has ls 5 [(0, .ref u0), (1, .int u1), (2, .int u2), (3, .int v2_3), (4, .int v11_4)] → hw D b0 s.heap f_11 H locs → TI G 9 τ f_11 → Fr [67] τ f f_11 → iv v2_3 0 74 → iv v11_4 0 75 → W p l e rm_s_X11_clears s m args below meth c H locs 0 0 Q (F0 m 11 ls []) := by
        intro n11
        induction n11 with
        | zero => intro ls f_11 H locs v11_4 hm11 hl h t_11 o_11 jv11_3 iv11_4; exact absurd hm11 (by omega)
        | succ n11 ih11 =>
          intro ls f_11 H locs v11_4 hm11 hl h t_11 o_11 jv11_3 iv11_4
          refine lv_iload hx hb dX11_clears_11 (lv_at hl 4 rfl) ?_
          refine lv_bipush (v := 75) hx hb dX11_clears_13 (by decide) ?_
          refine lv_icmp_ge (tgt := 47) hx hb dX11_clears_15 (by decide) (fun c1 => ?_) (fun c1 => ?_)
          · have c2 : 75 ≤ v11_4.toInt := Int32.le_iff_toInt_le.mp c1
            have i3 : iv v11_4 75 75 := iv_Er c2 (iv_k (x := 75) (k := 75) rfl) iv11_4 (by decide)
            refine i_inc hx hb dX11_clears_47 hl (k := 3) rfl jv11_3 rfl (lo := 1) (hi := 75) (by decide) (by decide) (lv' := fun v => [(3, .int v), (0, .ref u0), (1, .int u1), (2, .int u2), (4, .int v11_4)]) (fun _ => rfl) (fun z6 ls ez6 mz6 iz6 hl => ?_)
            refine lv_goto (tgt := 2) hx hb dX11_clears_50 (by decide) ?_
            exact ih2 ls f_11 H locs z6 (show 75 - z6.toInt < _ by omega) (lv_cons hl 1 rfl (lv_cons hl 2 rfl (lv_cons hl 3 rfl (lv_cons hl 0 rfl (lv_nil hl))))) h t_11 o_11 (iv_w iz6 (by decide))
          · have c4 : v11_4.toInt < 75 := Int32.lt_iff_toInt_lt.mp (iv_nle c1)
            have i5 : iv v11_4 0 74 := iv_Ll c4 iv11_4 (iv_k (x := 75) (k := 75) rfl) (by decide)
            refine lv_iload_n hx hb dX11_clears_18 rfl (lv_at hl 3 rfl) ?_
            refine lv_iload_n hx hb dX11_clears_19 rfl (lv_at hl 1 rfl) ?_
            refine lv_icmp_gt (tgt := 29) hx hb dX11_clears_20 (by decide) (fun c7 => ?_) (fun c7 => ?_)
            · have c8 : u1.toInt < v2_3.toInt := Int32.lt_iff_toInt_lt.mp c7
              have i9 : iv u1 (-2147483648) 73 := iv_Ll c8 hu1 jv11_3 (by decide)
              refine lv_aload_n hx hb dX11_clears_29 rfl (lv_at hl 0 rfl) ?_
              refine t_getr (tq := 67) C h t_11 hu0 (by decide) wf_60 rfl fl_X11_29 dX11_clears_30 (fun q12 tq12 => ?_)
              refine lv_iload_n hx hb dX11_clears_33 rfl (lv_at hl 3 rfl) ?_
              refine lv_iload hx hb dX11_clears_34 (lv_at hl 4 rfl) ?_
              refine k_i (r_S C h hl (As := [.int v2_3, .int v11_4]) (rest := [.ref q12]) (s_X11_cell l D G b0 τ f_11 t_11 v2_3 (iv_w jv11_3 (by decide)) v11_4 (iv_w i5 (by decide))) mk_X11_cell w_1706 w_1707 w_1708 ⟨Nat.le_of_ble_eq_true rfl, Nat.le_of_ble_eq_true rfl⟩ rfl (Nat.le_of_ble_eq_true rfl) ⟨Nat.le_of_ble_eq_true rfl, Nat.le_of_ble_eq_true rfl⟩ rfl dX11_clears_36) h (fun r13 f14 H locs p15 h => ?_)
              obtain ⟨ir13, tf14, ogf14, x0r13⟩ := p15
              have egf14 := Fr.nil2 ogf14
              subst egf14
              refine lv_lconst (v := 0) hx hb dX11_clears_39 (by decide) ?_
              refine t_last C h t_11 o_11 tq12 (by decide) (by decide) wf_67 fw_67 (iv_in ir13 (by decide)) dX11_clears_40 (fun f16 H locs h tf16 of16 hq => ?_)
              refine i_inc hx hb dX11_clears_41 hl (k := 4) rfl i5 rfl (lo := 1) (hi := 75) (by decide) (by decide) (lv' := fun v => [(4, .int v), (0, .ref u0), (1, .int u1), (2, .int u2), (3, .int v2_3)]) (fun _ => rfl) (fun z17 ls ez17 mz17 iz17 hl => ?_)
              refine lv_goto (tgt := 11) hx hb dX11_clears_44 (by decide) ?_
              exact ih11 ls f16 H locs z17 (show 75 - z17.toInt < _ by omega) (lv_cons hl 1 rfl (lv_cons hl 2 rfl (lv_cons hl 3 rfl (lv_cons hl 4 rfl (lv_cons hl 0 rfl (lv_nil hl)))))) h tf16 of16 jv11_3 (iv_w iz17 (by decide))
            · have c10 : v2_3.toInt ≤ u1.toInt := Int32.le_iff_toInt_le.mp (iv_nlt c7)
              have i11 : iv u1 0 2147483647 := iv_Er c10 jv11_3 hu1 (by decide)
              refine lv_iload hx hb dX11_clears_23 (lv_at hl 4 rfl) ?_
              refine lv_iload_n hx hb dX11_clears_25 rfl (lv_at hl 2 rfl) ?_
              refine lv_icmp_le (tgt := 41) hx hb dX11_clears_26 (by decide) (fun c18 => ?_) (fun c18 => ?_)
              · have c19 : v11_4.toInt ≤ u2.toInt := Int32.le_iff_toInt_le.mp c18
                have i20 : iv u2 0 2147483647 := iv_Er c19 i5 hu2 (by decide)
                refine i_inc hx hb dX11_clears_41 hl (k := 4) rfl i5 rfl (lo := 1) (hi := 75) (by decide) (by decide) (lv' := fun v => [(4, .int v), (0, .ref u0), (1, .int u1), (2, .int u2), (3, .int v2_3)]) (fun _ => rfl) (fun z23 ls ez23 mz23 iz23 hl => ?_)
                refine lv_goto (tgt := 11) hx hb dX11_clears_44 (by decide) ?_
                exact ih11 ls f_11 H locs z23 (show 75 - z23.toInt < _ by omega) (lv_cons hl 1 rfl (lv_cons hl 2 rfl (lv_cons hl 3 rfl (lv_cons hl 4 rfl (lv_cons hl 0 rfl (lv_nil hl)))))) h t_11 o_11 jv11_3 (iv_w iz23 (by decide))
              · have c21 : u2.toInt < v11_4.toInt := Int32.lt_iff_toInt_lt.mp (iv_nle c18)
                have i22 : iv u2 (-2147483648) 73 := iv_Ll c21 hu2 i5 (by decide)
                refine lv_aload_n hx hb dX11_clears_29 rfl (lv_at hl 0 rfl) ?_
                refine t_getr (tq := 67) C h t_11 hu0 (by decide) wf_60 rfl fl_X11_29 dX11_clears_30 (fun q24 tq24 => ?_)
                refine lv_iload_n hx hb dX11_clears_33 rfl (lv_at hl 3 rfl) ?_
                refine lv_iload hx hb dX11_clears_34 (lv_at hl 4 rfl) ?_
                refine k_i (r_S C h hl (As := [.int v2_3, .int v11_4]) (rest := [.ref q24]) (s_X11_cell l D G b0 τ f_11 t_11 v2_3 (iv_w jv11_3 (by decide)) v11_4 (iv_w i5 (by decide))) mk_X11_cell w_1706 w_1707 w_1708 ⟨Nat.le_of_ble_eq_true rfl, Nat.le_of_ble_eq_true rfl⟩ rfl (Nat.le_of_ble_eq_true rfl) ⟨Nat.le_of_ble_eq_true rfl, Nat.le_of_ble_eq_true rfl⟩ rfl dX11_clears_36) h (fun r25 f26 H locs p27 h => ?_)
                obtain ⟨ir25, tf26, ogf26, x0r25⟩ := p27
                have egf26 := Fr.nil2 ogf26
                subst egf26
                refine lv_lconst (v := 0) hx hb dX11_clears_39 (by decide) ?_
                refine t_last C h t_11 o_11 tq24 (by decide) (by decide) wf_67 fw_67 (iv_in ir25 (by decide)) dX11_clears_40 (fun f28 H locs h tf28 of28 hq => ?_)
                refine i_inc hx hb dX11_clears_41 hl (k := 4) rfl i5 rfl (lo := 1) (hi := 75) (by decide) (by decide) (lv' := fun v => [(4, .int v), (0, .ref u0), (1, .int u1), (2, .int u2), (3, .int v2_3)]) (fun _ => rfl) (fun z29 ls ez29 mz29 iz29 hl => ?_)
                refine lv_goto (tgt := 11) hx hb dX11_clears_44 (by decide) ?_
                exact ih11 ls f28 H locs z29 (show 75 - z29.toInt < _ by omega) (lv_cons hl 1 rfl (lv_cons hl 2 rfl (lv_cons hl 3 rfl (lv_cons hl 4 rfl (lv_cons hl 0 rfl (lv_nil hl)))))) h tf28 of28 jv11_3 (iv_w iz29 (by decide))
      refine lv_iload_n hx hb dX11_clears_2 rfl (lv_at hl 3 rfl) ?_
      refine lv_bipush (v := 75) hx hb dX11_clears_3 (by decide) ?_
      refine lv_icmp_ge (tgt := 53) hx hb dX11_clears_5 (by decide) (fun c30 => ?_) (fun c30 => ?_)
      · have c31 : 75 ≤ v2_3.toInt := Int32.le_iff_toInt_le.mp c30
        have i32 : iv v2_3 75 75 := iv_Er c31 (iv_k (x := 75) (k := 75) rfl) iv2_3 (by decide)
        exact u_vret C h hr hQ (⟨t_2, o_2⟩) (Nat.le_of_ble_eq_true rfl) (Nat.le_of_ble_eq_true rfl) dX11_clears_53
      · have c33 : v2_3.toInt < 75 := Int32.lt_iff_toInt_lt.mp (iv_nle c30)
        have i34 : iv v2_3 0 74 := iv_Ll c33 iv2_3 (iv_k (x := 75) (k := 75) rfl) (by decide)
        refine lv_iconst (v := 0) hx hb dX11_clears_8 (by decide) ?_
        refine lv_istore (lv' := [(4, .int 0), (0, .ref u0), (1, .int u1), (2, .int u2), (3, .int v2_3)]) hx hb dX11_clears_9 hl (by decide) rfl (fun ls hl => ?_)
        exact L11 76 ls f_2 H locs 0 (by decide) (lv_cons hl 1 rfl (lv_cons hl 2 rfl (lv_cons hl 3 rfl (lv_cons hl 4 rfl (lv_cons hl 0 rfl (lv_nil hl)))))) h t_2 o_2 i34 ⟨by decide, by decide⟩
  refine lv_iconst (v := 0) hx hb dX11_clears_0 (by decide) ?_
  refine lv_istore_n (lv' := [(3, .int 0), (0, .ref u0), (1, .int u1), (2, .int u2)]) hx hb dX11_clears_1 rfl hl (by decide) rfl (fun ls hl => ?_)
  exact L2 76 ls f s.heap [] 0 (by decide) (lv_cons hl 1 rfl (lv_cons hl 2 rfl (lv_cons hl 3 rfl (lv_cons hl 0 rfl (lv_nil hl))))) h t o ⟨by decide, by decide⟩
abbrev rm_s_X11_bridge : Room := { frames := 2, cells := 0, slots := 0, locals := 58 }
set_option maxRecDepth 100000 in
set_option maxHeartbeats 4000000 in
theorem s_X11_bridge (l : Launch) (D : va_G) (G : Nat → Nat) (b0 : Nat) (τ : Nat → Nat) (f : hM) (t : TI G 9 τ f) (u0 : Nat) (hu0 : τ u0 = 60) (u1 : Int32) (hu1 : iv u1 (-2147483648) 2147483647) (u2 : Int32) (hu2 : iv u2 (-2147483648) 2147483647) (u3 : Int32) (hu3 : iv u3 (-2147483648) 2147483647) (u4 : Int32) (hu4 : iv u4 (-2147483648) 2147483647) (hNG : NGs τ f u0) : mI l yX11_bridge cX11_bridge 6 (.int) rm_s_X11_bridge D G b0 f [.ref u0, .int u1, .int u2, .int u3, .int u4] (fun r f1 => iv r (-2147483648) 2147483647 ∧ TI G 9 τ f1 ∧ Fr [60, 67, 60001, 60013, 60014, 60015] τ f f1 ∧ NGs τ f1 u0) := by
  refine met2 (own := RX11) (by decide) rfl (Nat.le_of_ble_eq_true rfl) ?_
  intro p e s m args below meth c ls Q hQ C hr hini hl h
  have hl : lv_has ls 6 [(0, .ref u0), (1, .int u1), (2, .int u2), (3, .int u3), (4, .int u4)] := hl
  obtain ⟨hx, hb, hml, hown, hts, hE0, hlk⟩ := id C
  have o := Fr.rf [60, 67, 60001, 60013, 60014, 60015] τ f
  have L46 : ∀ (n46 : Nat) (ls : Array Slot) (f_46 : hM) (H : Heap) (locs : List Loc) (v46_5 : Int32) (g46_u0_14 : Int32), 60 - v46_5.toInt < (n46 : Int) → lv_has ls 6 [(0, .ref u0), (1, .int u1), (2, .int u2), (3, .int u3), (4, .int u4), (5, .int v46_5)] → hw D b0 s.heap f_46 H locs → TI G 9 τ f_46 → Fr [60, 67, 60001, 60013, 60014, 60015] τ f f_46 → iv u1 0 7 → iv u2 0 60 → iv u3 (-70) 70 → iv u4 (-70) 70 → iv v46_5 0 60 → iv g46_u0_14 0 60 → NGs τ f_46 u0 → atp f_46 u0 (fd 14 (.int g46_u0_14)) → g46_u0_14.toInt = v46_5.toInt → W p l e rm_s_X11_bridge s m args below meth c H locs 0 0 Q (F0 m 46 ls []) := by
    intro n46
    induction n46 with
    | zero => intro ls f_46 H locs v46_5 g46_u0_14 hm46 hl h t_46 o_46 jv46_1 jv46_2 jv46_3 jv46_4 iv46_5 ig46_u0_14 k46_u0_NG k46_u0_14 hv46_0; exact absurd hm46 (by omega)
    | succ n46 ih46 =>
      intro ls f_46 H locs v46_5 g46_u0_14 hm46 hl h t_46 o_46 jv46_1 jv46_2 jv46_3 jv46_4 iv46_5 ig46_u0_14 k46_u0_NG k46_u0_14 hv46_0
      refine lv_iload hx hb dX11_bridge_46 (lv_at hl 5 rfl) ?_
      refine lv_iload_n hx hb dX11_bridge_48 rfl (lv_at hl 2 rfl) ?_
      refine lv_icmp_ge (tgt := 72) hx hb dX11_bridge_49 (by decide) (fun c1 => ?_) (fun c1 => ?_)
      · have c2 : u2.toInt ≤ v46_5.toInt := Int32.le_iff_toInt_le.mp c1
        refine lv_aload_n hx hb dX11_bridge_72 rfl (lv_at hl 0 rfl) ?_
        refine lv_iload_n hx hb dX11_bridge_73 rfl (lv_at hl 3 rfl) ?_
        refine lv_iload hx hb dX11_bridge_74 (lv_at hl 4 rfl) ?_
        obtain ⟨_, r6⟩ := t_rec t_46 hu0 (by decide) wf_60
        refine k_l (r_V C h hl (As := [.int u3, .int u4]) (rest := []) (s_X11_gridAt l D G b0 τ f_46 t_46 u0 hu0 u3 (iv_w jv46_3 (by decide)) u4 (iv_w jv46_4 (by decide))) r6 (Cn := RX11) (T := TX11) (N := 32) rfl rfl mk_X11_gridAt w_1720 w_1722 w_60 w_1723 ⟨Nat.le_of_ble_eq_true rfl, Nat.le_of_ble_eq_true rfl⟩ rfl (Nat.le_of_ble_eq_true rfl) ⟨Nat.le_of_ble_eq_true rfl, Nat.le_of_ble_eq_true rfl⟩ rfl dX11_bridge_76) h (fun r7 f8 H locs p9 h => ?_)
        obtain ⟨tf8, ogf8⟩ := p9
        have egf8 := Fr.nil2 ogf8
        subst egf8
        refine lv_l2i hx hb dX11_bridge_79 rfl (i_top (iv_any _) (fun z10 ez10 iz10 => ?_))
        exact u_iret C h hr hQ (⟨iz10, t_46, o_46, k46_u0_NG⟩) (Nat.le_of_ble_eq_true rfl) (Nat.le_of_ble_eq_true rfl) dX11_bridge_80
      · have c3 : v46_5.toInt < u2.toInt := Int32.lt_iff_toInt_lt.mp (iv_nle c1)
        have i4 : iv v46_5 0 59 := iv_Ll c3 iv46_5 jv46_2 (by decide)
        have i5 : iv u2 1 60 := iv_Lr c3 iv46_5 jv46_2 (by decide)
        refine lv_aload_n hx hb dX11_bridge_52 rfl (lv_at hl 0 rfl) ?_
        refine lv_iload_n hx hb dX11_bridge_53 rfl (lv_at hl 1 rfl) ?_
        refine lv_iconst (v := 0) hx hb dX11_bridge_54 (by decide) ?_
        refine lv_iconst (v := 1) hx hb dX11_bridge_55 (by decide) ?_
        obtain ⟨_, r11⟩ := t_rec t_46 hu0 (by decide) wf_60
        refine k_v (r_V C h hl (As := [.int u1, .int 0, .int 1]) (rest := []) (s_X11_goes l D G b0 τ f_46 t_46 u0 hu0 u1 jv46_1 0 (iv_w (iv_k (x := 0) (k := 0) rfl) (by decide)) 1 (iv_w (iv_k (x := 1) (k := 1) rfl) (by decide)) g46_u0_14 (show iv g46_u0_14 0 59 from by omega) k46_u0_14 k46_u0_NG) r11 (Cn := RX11) (T := TX11) (N := 32) rfl rfl mk_X11_goes w_1709 w_1711 w_59 w_1712 ⟨Nat.le_of_ble_eq_true rfl, Nat.le_of_ble_eq_true rfl⟩ rfl (Nat.le_of_ble_eq_true rfl) ⟨Nat.le_of_ble_eq_true rfl, Nat.le_of_ble_eq_true rfl⟩ rfl dX11_bridge_56) h (fun f13 H locs p14 h => ?_)
        have n15 : (0 : Int32).toInt = 0 := rfl
        have n16 : (1 : Int32).toInt = 1 := rfl
        obtain ⟨tf13, ogf13, ⟨gg_f13, kpu0_14f13, ipu0_14f13, rpu0_14f13⟩, ngf13⟩ := p14
        have of13 : Fr [60, 67, 60001, 60013, 60014, 60015] τ f f13 := Fr.tr o_46 ogf13 (by decide) (by decide)
        refine lv_aload_n hx hb dX11_bridge_59 rfl (lv_at hl 0 rfl) ?_
        refine lv_iload_n hx hb dX11_bridge_60 rfl (lv_at hl 3 rfl) ?_
        refine lv_iload hx hb dX11_bridge_61 (lv_at hl 4 rfl) ?_
        obtain ⟨_, r17⟩ := t_rec tf13 hu0 (by decide) wf_60
        refine k_v (r_V C h hl (As := [.int u3, .int u4]) (rest := []) (s_X11_clears l D G b0 τ f13 tf13 u0 hu0 u3 (iv_w jv46_3 (by decide)) u4 (iv_w jv46_4 (by decide))) r17 (Cn := RX11) (T := TX11) (N := 32) rfl rfl mk_X11_clears w_1775 w_1777 w_65 w_1778 ⟨Nat.le_of_ble_eq_true rfl, Nat.le_of_ble_eq_true rfl⟩ rfl (Nat.le_of_ble_eq_true rfl) ⟨Nat.le_of_ble_eq_true rfl, Nat.le_of_ble_eq_true rfl⟩ rfl dX11_bridge_63) h (fun f19 H locs p20 h => ?_)
        obtain ⟨tf19, ogf19⟩ := p20
        have of19 : Fr [60, 67, 60001, 60013, 60014, 60015] τ f f19 := Fr.tr of13 ogf19 (by decide) (by decide)
        have k21 := NGs.fr ngf13 ogf19 hu0 (by decide)
        have k22 := atp.fr kpu0_14f13 ogf19 hu0 (by decide)
        refine i_inc hx hb dX11_bridge_66 hl (k := 5) rfl i4 rfl (lo := 1) (hi := 60) (by decide) (by decide) (lv' := fun v => [(5, .int v), (0, .ref u0), (1, .int u1), (2, .int u2), (3, .int u3), (4, .int u4)]) (fun _ => rfl) (fun z23 ls ez23 mz23 iz23 hl => ?_)
        refine lv_goto (tgt := 46) hx hb dX11_bridge_69 (by decide) ?_
        exact ih46 ls f19 H locs z23 gg_f13 (show 60 - z23.toInt < _ by omega) (lv_cons hl 1 rfl (lv_cons hl 2 rfl (lv_cons hl 3 rfl (lv_cons hl 4 rfl (lv_cons hl 5 rfl (lv_cons hl 0 rfl (lv_nil hl))))))) h tf19 of19 jv46_1 (iv_w i5 (by decide)) jv46_3 jv46_4 (iv_w iz23 (by decide)) (iv_w ipu0_14f13 (by decide)) k21 k22 (show gg_f13.toInt = z23.toInt by omega)
  refine lv_aload_n hx hb dX11_bridge_0 rfl (lv_at hl 0 rfl) ?_
  refine lv_iconst (v := 0) hx hb dX11_bridge_1 (by decide) ?_
  refine t_put C h t o hu0 (by decide) (by decide) (by decide) wf_60 fw_60 (k := 0) rfl flw_X11_75 (Or.inr ⟨_, _, _, rfl, rfl⟩) (v := .int 0) rfl rfl ⟨_, rfl, ⟨by decide, by decide⟩⟩ dX11_bridge_2 (fun f24 H locs h tf24 of24 hq ha_ hn_ hk_ => ?_)
  have k25 := NGs.pk hNG hk_ (by decide) (by decide)
  have k26 := ha_
  refine lv_aload_n hx hb dX11_bridge_5 rfl (lv_at hl 0 rfl) ?_
  refine lv_iload_n hx hb dX11_bridge_6 rfl (lv_at hl 1 rfl) ?_
  obtain ⟨_, r27⟩ := t_rec tf24 hu0 (by decide) wf_60
  refine k_i (r_V C h hl (As := [.int u1]) (rest := []) (s_X11_isSet l D G b0 τ f24 tf24 u0 hu0 u1 hu1) r27 (Cn := RX11) (T := TX11) (N := 32) rfl rfl mk_X11_isSet w_1620 w_1622 w_51 w_1623 ⟨Nat.le_of_ble_eq_true rfl, Nat.le_of_ble_eq_true rfl⟩ rfl (Nat.le_of_ble_eq_true rfl) ⟨Nat.le_of_ble_eq_true rfl, Nat.le_of_ble_eq_true rfl⟩ rfl dX11_bridge_7) h (fun r28 f29 H locs p30 h => ?_)
  obtain ⟨ir28, tf29, ogf29, cnr28⟩ := p30
  have egf29 := Fr.nil2 ogf29
  subst egf29
  refine lv_if_eq (tgt := 29) hx hb dX11_bridge_10 (by decide) (fun c31 => ?_) (fun c31 => ?_)
  · have c32 : r28.toInt = 0 := congrArg Int32.toInt c31
    have i33 : iv r28 0 0 := iv_Q c32 ir28 (iv_k (x := 0) (k := 0) rfl) (by decide)
    refine lv_iconst (v := -1) hx hb dX11_bridge_29 (by decide) ?_
    exact u_iret C h hr hQ (⟨⟨by decide, by decide⟩, tf24, of24, k25⟩) (Nat.le_of_ble_eq_true rfl) (Nat.le_of_ble_eq_true rfl) dX11_bridge_30
  · have c34 : r28.toInt ≠ 0 := fun z_ => c31 (Int32.toInt_inj.mp z_)
    have i35 : iv r28 1 1 := iv_Nl c34 ir28 (by decide)
    have i36 := cnr28 c34
    refine lv_iload_n hx hb dX11_bridge_13 rfl (lv_at hl 2 rfl) ?_
    refine k_i (r_S C h hl (As := [.int u2]) (rest := []) (s_X11_isLong l D G b0 τ f24 tf24 u2 hu2) mk_X11_isLong w_1689 w_1690 w_1691 ⟨Nat.le_of_ble_eq_true rfl, Nat.le_of_ble_eq_true rfl⟩ rfl (Nat.le_of_ble_eq_true rfl) ⟨Nat.le_of_ble_eq_true rfl, Nat.le_of_ble_eq_true rfl⟩ rfl dX11_bridge_14) h (fun r37 f38 H locs p39 h => ?_)
    obtain ⟨ir37, tf38, ogf38, cnr37⟩ := p39
    have egf38 := Fr.nil2 ogf38
    subst egf38
    refine lv_if_eq (tgt := 29) hx hb dX11_bridge_17 (by decide) (fun c40 => ?_) (fun c40 => ?_)
    · have c41 : r37.toInt = 0 := congrArg Int32.toInt c40
      have i42 : iv r37 0 0 := iv_Q c41 ir37 (iv_k (x := 0) (k := 0) rfl) (by decide)
      refine lv_iconst (v := -1) hx hb dX11_bridge_29 (by decide) ?_
      exact u_iret C h hr hQ (⟨⟨by decide, by decide⟩, tf24, of24, k25⟩) (Nat.le_of_ble_eq_true rfl) (Nat.le_of_ble_eq_true rfl) dX11_bridge_30
    · have c43 : r37.toInt ≠ 0 := fun z_ => c40 (Int32.toInt_inj.mp z_)
      have i44 : iv r37 1 1 := iv_Nl c43 ir37 (by decide)
      have i45 := cnr37 c43
      refine lv_iload_n hx hb dX11_bridge_20 rfl (lv_at hl 3 rfl) ?_
      refine lv_iload hx hb dX11_bridge_21 (lv_at hl 4 rfl) ?_
      refine k_i (r_S C h hl (As := [.int u3, .int u4]) (rest := []) (s_X11_isFar l D G b0 τ f24 tf24 u3 hu3 u4 hu4) mk_X11_isFar w_1693 w_1694 w_1695 ⟨Nat.le_of_ble_eq_true rfl, Nat.le_of_ble_eq_true rfl⟩ rfl (Nat.le_of_ble_eq_true rfl) ⟨Nat.le_of_ble_eq_true rfl, Nat.le_of_ble_eq_true rfl⟩ rfl dX11_bridge_23) h (fun r46 f47 H locs p48 h => ?_)
      obtain ⟨ir46, tf47, ogf47, czr46⟩ := p48
      have egf47 := Fr.nil2 ogf47
      subst egf47
      refine lv_if_eq (tgt := 31) hx hb dX11_bridge_26 (by decide) (fun c49 => ?_) (fun c49 => ?_)
      · have c50 : r46.toInt = 0 := congrArg Int32.toInt c49
        have i51 : iv r46 0 0 := iv_Q c50 ir46 (iv_k (x := 0) (k := 0) rfl) (by decide)
        obtain ⟨i52, i53⟩ := czr46 c50
        refine lv_aload_n hx hb dX11_bridge_31 rfl (lv_at hl 0 rfl) ?_
        refine lv_iload_n hx hb dX11_bridge_32 rfl (lv_at hl 1 rfl) ?_
        obtain ⟨_, r56⟩ := t_rec tf24 hu0 (by decide) wf_60
        refine k_v (r_V C h hl (As := [.int u1]) (rest := []) (s_X11_begins l D G b0 τ f24 tf24 u0 hu0 u1 i36) r56 (Cn := RX11) (T := TX11) (N := 32) rfl rfl mk_X11_begins w_1702 w_1704 w_58 w_1705 ⟨Nat.le_of_ble_eq_true rfl, Nat.le_of_ble_eq_true rfl⟩ rfl (Nat.le_of_ble_eq_true rfl) ⟨Nat.le_of_ble_eq_true rfl, Nat.le_of_ble_eq_true rfl⟩ rfl dX11_bridge_33) h (fun f58 H locs p59 h => ?_)
        obtain ⟨tf58, ogf58, ⟨gg_f58, kpu0_14f58, ipu0_14f58, rpu0_14f58⟩⟩ := p59
        have of58 : Fr [60, 67, 60001, 60013, 60014, 60015] τ f f58 := Fr.tr of24 ogf58 (by decide) (by decide)
        have k60 := NGs.fr k25 ogf58 hu0 (by decide)
        refine lv_aload_n hx hb dX11_bridge_36 rfl (lv_at hl 0 rfl) ?_
        refine lv_iload_n hx hb dX11_bridge_37 rfl (lv_at hl 3 rfl) ?_
        refine lv_iload hx hb dX11_bridge_38 (lv_at hl 4 rfl) ?_
        obtain ⟨_, r61⟩ := t_rec tf58 hu0 (by decide) wf_60
        refine k_v (r_V C h hl (As := [.int u3, .int u4]) (rest := []) (s_X11_clears l D G b0 τ f58 tf58 u0 hu0 u3 (iv_w i52 (by decide)) u4 (iv_w i53 (by decide))) r61 (Cn := RX11) (T := TX11) (N := 32) rfl rfl mk_X11_clears w_1775 w_1777 w_65 w_1778 ⟨Nat.le_of_ble_eq_true rfl, Nat.le_of_ble_eq_true rfl⟩ rfl (Nat.le_of_ble_eq_true rfl) ⟨Nat.le_of_ble_eq_true rfl, Nat.le_of_ble_eq_true rfl⟩ rfl dX11_bridge_40) h (fun f63 H locs p64 h => ?_)
        obtain ⟨tf63, ogf63⟩ := p64
        have of63 : Fr [60, 67, 60001, 60013, 60014, 60015] τ f f63 := Fr.tr of58 ogf63 (by decide) (by decide)
        have k65 := NGs.fr k60 ogf63 hu0 (by decide)
        have k66 := atp.fr kpu0_14f58 ogf63 hu0 (by decide)
        refine lv_iconst (v := 0) hx hb dX11_bridge_43 (by decide) ?_
        refine lv_istore (lv' := [(5, .int 0), (0, .ref u0), (1, .int u1), (2, .int u2), (3, .int u3), (4, .int u4)]) hx hb dX11_bridge_44 hl (by decide) rfl (fun ls hl => ?_)
        exact L46 61 ls f63 H locs 0 gg_f58 (by decide) (lv_cons hl 1 rfl (lv_cons hl 2 rfl (lv_cons hl 3 rfl (lv_cons hl 4 rfl (lv_cons hl 5 rfl (lv_cons hl 0 rfl (lv_nil hl))))))) h tf63 of63 i36 i45 i52 i53 ⟨by decide, by decide⟩ (iv_w ipu0_14f58 (by decide)) k65 k66 (show gg_f58.toInt = 0 by omega)
      · have c54 : r46.toInt ≠ 0 := fun z_ => c49 (Int32.toInt_inj.mp z_)
        have i55 : iv r46 1 1 := iv_Nl c54 ir46 (by decide)
        refine lv_iconst (v := -1) hx hb dX11_bridge_29 (by decide) ?_
        exact u_iret C h hr hQ (⟨⟨by decide, by decide⟩, tf24, of24, k25⟩) (Nat.le_of_ble_eq_true rfl) (Nat.le_of_ble_eq_true rfl) dX11_bridge_30
abbrev rm_s_X11_isEven : Room := { frames := 1, cells := 0, slots := 0, locals := 22 }
set_option maxRecDepth 100000 in
set_option maxHeartbeats 4000000 in
theorem s_X11_isEven (l : Launch) (D : va_G) (G : Nat → Nat) (b0 : Nat) (τ : Nat → Nat) (f : hM) (t : TI G 9 τ f) (u0 : Nat) (hu0 : τ u0 = 60) (u1 : Int32) (hu1 : iv u1 0 7) : mI l yX11_isEven cX11_isEven 3 (.boolean) rm_s_X11_isEven D G b0 f [.ref u0, .int u1] (fun r f1 => iv r 0 1 ∧ TI G 9 τ f1 ∧ Fr [] τ f f1) := by
  refine met2 (own := RX11) (by decide) rfl (Nat.le_of_ble_eq_true rfl) ?_
  intro p e s m args below meth c ls Q hQ C hr hini hl h
  have hl : lv_has ls 3 [(0, .ref u0), (1, .int u1)] := hl
  obtain ⟨hx, hb, hml, hown, hts, hE0, hlk⟩ := id C
  have o := Fr.rf [] τ f
  have L2 : ∀ (n2 : Nat) (ls : Array Slot) (f_2 : hM) (H : Heap) (locs : List Loc) (v2_2 : Int32), 8 - v2_2.toInt < (n2 : Int) → lv_has ls 3 [(0, .ref u0), (1, .int u1), (2, .int v2_2)] → hw D b0 s.heap f_2 H locs → TI G 9 τ f_2 → Fr [] τ f f_2 → iv v2_2 0 8 → W p l e rm_s_X11_isEven s m args below meth c H locs 0 0 Q (F0 m 2 ls []) := by
    intro n2
    induction n2 with
    | zero => intro ls f_2 H locs v2_2 hm2 hl h t_2 o_2 iv2_2; exact absurd hm2 (by omega)
    | succ n2 ih2 =>
      intro ls f_2 H locs v2_2 hm2 hl h t_2 o_2 iv2_2
      refine lv_iload_n hx hb dX11_isEven_2 rfl (lv_at hl 2 rfl) ?_
      refine lv_bipush (v := 8) hx hb dX11_isEven_3 (by decide) ?_
      refine lv_icmp_ge (tgt := 58) hx hb dX11_isEven_5 (by decide) (fun c1 => ?_) (fun c1 => ?_)
      · have c2 : 8 ≤ v2_2.toInt := Int32.le_iff_toInt_le.mp c1
        have i3 : iv v2_2 8 8 := iv_Er c2 (iv_k (x := 8) (k := 8) rfl) iv2_2 (by decide)
        refine lv_iconst (v := 1) hx hb dX11_isEven_58 (by decide) ?_
        exact u_zret C h hr hQ ⟨by decide, by decide⟩ (⟨⟨by decide, by decide⟩, t_2, o_2⟩) (Nat.le_of_ble_eq_true rfl) (Nat.le_of_ble_eq_true rfl) dX11_isEven_59
      · have c4 : v2_2.toInt < 8 := Int32.lt_iff_toInt_lt.mp (iv_nle c1)
        have i5 : iv v2_2 0 7 := iv_Ll c4 iv2_2 (iv_k (x := 8) (k := 8) rfl) (by decide)
        refine lv_aload_n hx hb dX11_isEven_8 rfl (lv_at hl 0 rfl) ?_
        refine lv_iload_n hx hb dX11_isEven_9 rfl (lv_at hl 1 rfl) ?_
        refine lv_iload_n hx hb dX11_isEven_10 rfl (lv_at hl 2 rfl) ?_
        obtain ⟨_, r6⟩ := t_rec t_2 hu0 (by decide) wf_60
        refine k_i (r_V C h hl (As := [.int u1, .int v2_2]) (rest := []) (s_X11_weightOf l D G b0 τ f_2 t_2 u0 hu0 u1 hu1 v2_2 (iv_w i5 (by decide))) r6 (Cn := RX11) (T := TX11) (N := 32) rfl rfl mk_X11_weightOf w_1631 w_1633 w_52 w_1634 ⟨Nat.le_of_ble_eq_true rfl, Nat.le_of_ble_eq_true rfl⟩ rfl (Nat.le_of_ble_eq_true rfl) ⟨Nat.le_of_ble_eq_true rfl, Nat.le_of_ble_eq_true rfl⟩ rfl dX11_isEven_11) h (fun r7 f8 H locs p9 h => ?_)
        obtain ⟨ir7, tf8, ogf8⟩ := p9
        have egf8 := Fr.nil2 ogf8
        subst egf8
        refine lv_aload_n hx hb dX11_isEven_14 rfl (lv_at hl 0 rfl) ?_
        refine lv_iload_n hx hb dX11_isEven_15 rfl (lv_at hl 1 rfl) ?_
        refine lv_bipush (v := 8) hx hb dX11_isEven_16 (by decide) ?_
        refine lv_iload_n hx hb dX11_isEven_18 rfl (lv_at hl 2 rfl) ?_
        refine i_ksub hx hb dX11_isEven_19 (k := 8) rfl i5 (lo := 1) (hi := 8) (by decide) (fun z10 ez10 mz10 iz10 => ?_)
        refine lv_bipush (v := 8) hx hb dX11_isEven_20 (by decide) ?_
        refine lv_irem hx hb dX11_isEven_22 (by decide) (i_topm (P := fun q_ => q_ < Int32.toInt 8 ∧ q_ ≤ Int32.toInt z10) (iv_remm (iv_w iz10 (by decide) : iv _ 0 8) (iv_k (x := 8) (k := 8) rfl) (by decide)) (fun z11 ez11 mz11 iz11 => ?_))
        obtain ⟨_, r12⟩ := t_rec t_2 hu0 (by decide) wf_60
        refine k_i (r_V C h hl (As := [.int u1, .int z11]) (rest := [.int r7]) (s_X11_weightOf l D G b0 τ f_2 t_2 u0 hu0 u1 hu1 z11 (iv_w iz11 (by decide))) r12 (Cn := RX11) (T := TX11) (N := 32) rfl rfl mk_X11_weightOf w_1631 w_1633 w_52 w_1634 ⟨Nat.le_of_ble_eq_true rfl, Nat.le_of_ble_eq_true rfl⟩ rfl (Nat.le_of_ble_eq_true rfl) ⟨Nat.le_of_ble_eq_true rfl, Nat.le_of_ble_eq_true rfl⟩ rfl dX11_isEven_23) h (fun r13 f14 H locs p15 h => ?_)
        obtain ⟨ir13, tf14, ogf14⟩ := p15
        have egf14 := Fr.nil2 ogf14
        subst egf14
        refine lv_icmp_ne (tgt := 50) hx hb dX11_isEven_26 (by decide) (fun c16 => ?_) (fun c16 => ?_)
        · have c17 : r7.toInt ≠ r13.toInt := fun z_ => c16 (Int32.toInt_inj.mp z_)
          refine lv_iconst (v := 0) hx hb dX11_isEven_50 (by decide) ?_
          exact u_zret C h hr hQ ⟨by decide, by decide⟩ (⟨⟨by decide, by decide⟩, t_2, o_2⟩) (Nat.le_of_ble_eq_true rfl) (Nat.le_of_ble_eq_true rfl) dX11_isEven_51
        · have c18 : r7.toInt = r13.toInt := congrArg Int32.toInt c16
          refine lv_aload_n hx hb dX11_isEven_29 rfl (lv_at hl 0 rfl) ?_
          refine lv_iload_n hx hb dX11_isEven_30 rfl (lv_at hl 1 rfl) ?_
          refine lv_iload_n hx hb dX11_isEven_31 rfl (lv_at hl 2 rfl) ?_
          obtain ⟨_, r19⟩ := t_rec t_2 hu0 (by decide) wf_60
          refine k_i (r_V C h hl (As := [.int u1, .int v2_2]) (rest := []) (s_X11_weightOf l D G b0 τ f_2 t_2 u0 hu0 u1 hu1 v2_2 (iv_w i5 (by decide))) r19 (Cn := RX11) (T := TX11) (N := 32) rfl rfl mk_X11_weightOf w_1631 w_1633 w_52 w_1634 ⟨Nat.le_of_ble_eq_true rfl, Nat.le_of_ble_eq_true rfl⟩ rfl (Nat.le_of_ble_eq_true rfl) ⟨Nat.le_of_ble_eq_true rfl, Nat.le_of_ble_eq_true rfl⟩ rfl dX11_isEven_32) h (fun r20 f21 H locs p22 h => ?_)
          obtain ⟨ir20, tf21, ogf21⟩ := p22
          have egf21 := Fr.nil2 ogf21
          subst egf21
          refine lv_aload_n hx hb dX11_isEven_35 rfl (lv_at hl 0 rfl) ?_
          refine lv_iload_n hx hb dX11_isEven_36 rfl (lv_at hl 1 rfl) ?_
          refine lv_bipush (v := 12) hx hb dX11_isEven_37 (by decide) ?_
          refine lv_iload_n hx hb dX11_isEven_39 rfl (lv_at hl 2 rfl) ?_
          refine i_ksub hx hb dX11_isEven_40 (k := 12) rfl i5 (lo := 5) (hi := 12) (by decide) (fun z23 ez23 mz23 iz23 => ?_)
          refine lv_bipush (v := 8) hx hb dX11_isEven_41 (by decide) ?_
          refine lv_irem hx hb dX11_isEven_43 (by decide) (i_topm (P := fun q_ => q_ < Int32.toInt 8 ∧ q_ ≤ Int32.toInt z23) (iv_remm (iv_w iz23 (by decide) : iv _ 0 12) (iv_k (x := 8) (k := 8) rfl) (by decide)) (fun z24 ez24 mz24 iz24 => ?_))
          obtain ⟨_, r25⟩ := t_rec t_2 hu0 (by decide) wf_60
          refine k_i (r_V C h hl (As := [.int u1, .int z24]) (rest := [.int r20]) (s_X11_weightOf l D G b0 τ f_2 t_2 u0 hu0 u1 hu1 z24 (iv_w iz24 (by decide))) r25 (Cn := RX11) (T := TX11) (N := 32) rfl rfl mk_X11_weightOf w_1631 w_1633 w_52 w_1634 ⟨Nat.le_of_ble_eq_true rfl, Nat.le_of_ble_eq_true rfl⟩ rfl (Nat.le_of_ble_eq_true rfl) ⟨Nat.le_of_ble_eq_true rfl, Nat.le_of_ble_eq_true rfl⟩ rfl dX11_isEven_44) h (fun r26 f27 H locs p28 h => ?_)
          obtain ⟨ir26, tf27, ogf27⟩ := p28
          have egf27 := Fr.nil2 ogf27
          subst egf27
          refine lv_icmp_eq (tgt := 52) hx hb dX11_isEven_47 (by decide) (fun c29 => ?_) (fun c29 => ?_)
          · have c30 : r20.toInt = r26.toInt := congrArg Int32.toInt c29
            refine i_inc hx hb dX11_isEven_52 hl (k := 2) rfl i5 rfl (lo := 1) (hi := 8) (by decide) (by decide) (lv' := fun v => [(2, .int v), (0, .ref u0), (1, .int u1)]) (fun _ => rfl) (fun z32 ls ez32 mz32 iz32 hl => ?_)
            refine lv_goto (tgt := 2) hx hb dX11_isEven_55 (by decide) ?_
            exact ih2 ls f_2 H locs z32 (show 8 - z32.toInt < _ by omega) (lv_cons hl 1 rfl (lv_cons hl 2 rfl (lv_cons hl 0 rfl (lv_nil hl)))) h t_2 o_2 (iv_w iz32 (by decide))
          · have c31 : r20.toInt ≠ r26.toInt := fun z_ => c29 (Int32.toInt_inj.mp z_)
            refine lv_iconst (v := 0) hx hb dX11_isEven_50 (by decide) ?_
            exact u_zret C h hr hQ ⟨by decide, by decide⟩ (⟨⟨by decide, by decide⟩, t_2, o_2⟩) (Nat.le_of_ble_eq_true rfl) (Nat.le_of_ble_eq_true rfl) dX11_isEven_51
  refine lv_iconst (v := 0) hx hb dX11_isEven_0 (by decide) ?_
  refine lv_istore_n (lv' := [(2, .int 0), (0, .ref u0), (1, .int u1)]) hx hb dX11_isEven_1 rfl hl (by decide) rfl (fun ls hl => ?_)
  exact L2 9 ls f s.heap [] 0 (by decide) (lv_cons hl 1 rfl (lv_cons hl 2 rfl (lv_cons hl 0 rfl (lv_nil hl)))) h t o ⟨by decide, by decide⟩
abbrev rm_s_X11_ranks : Room := { frames := 2, cells := 0, slots := 0, locals := 48 }
set_option maxRecDepth 100000 in
set_option maxHeartbeats 4000000 in
theorem s_X11_ranks (l : Launch) (D : va_G) (G : Nat → Nat) (b0 : Nat) (τ : Nat → Nat) (f : hM) (t : TI G 9 τ f) (u0 : Nat) (hu0 : τ u0 = 60) (u1 : Int32) (hu1 : iv u1 0 13) : mI l yX11_ranks cX11_ranks 11 (.int) rm_s_X11_ranks D G b0 f [.ref u0, .int u1] (fun r f1 => iv r 0 13 ∧ TI G 9 τ f1 ∧ Fr [60, 70, 60019] τ f f1) := by
  refine met2 (own := RX11) (by decide) rfl (Nat.le_of_ble_eq_true rfl) ?_
  intro p e s m args below meth c ls Q hQ C hr hini hl h
  have hl : lv_has ls 11 [(0, .ref u0), (1, .int u1)] := hl
  obtain ⟨hx, hb, hml, hown, hts, hE0, hlk⟩ := id C
  have o := Fr.rf [60, 70, 60019] τ f
  have L9 : ∀ (n9 : Nat) (ls : Array Slot) (f_9 : hM) (H : Heap) (locs : List Loc) (v9_2 : Int32) (v9_3 : Int32), 13 - v9_3.toInt < (n9 : Int) → lv_has ls 11 [(0, .ref u0), (1, .int u1), (2, .int v9_2), (3, .int v9_3)] → hw D b0 s.heap f_9 H locs → TI G 9 τ f_9 → Fr [60, 70, 60019] τ f f_9 → iv v9_2 0 13 → iv v9_3 0 13 → v9_2.toInt ≤ v9_3.toInt → W p l e rm_s_X11_ranks s m args below meth c H locs 0 0 Q (F0 m 9 ls []) := by
    intro n9
    induction n9 with
    | zero => intro ls f_9 H locs v9_2 v9_3 hm9 hl h t_9 o_9 iv9_2 iv9_3 hv9_0; exact absurd hm9 (by omega)
    | succ n9 ih9 =>
      intro ls f_9 H locs v9_2 v9_3 hm9 hl h t_9 o_9 iv9_2 iv9_3 hv9_0
      have L17 : ∀ (n17 : Nat) (ls : Array Slot) (f_17 : hM) (H : Heap) (locs : List Loc) (v17_4 : Int32), 13 - v17_4.toInt < (n17 : Int) → lv_has ls 11 [(0, .ref u0), (1, .int u1), (2, .int v9_2), (3, .int v9_3), (4, .int v17_4)] → hw D b0 s.heap f_17 H locs → TI G 9 τ f_17 → Fr [60, 70, 60019] τ f f_17 → iv u1 1 13 → iv v9_3 0 12 → iv v17_4 0 13 → v17_4.toInt ≤ u1.toInt → W p l e rm_s_X11_ranks s m args below meth c H locs 0 0 Q (F0 m 17 ls []) := by
        intro n17
        induction n17 with
        | zero => intro ls f_17 H locs v17_4 hm17 hl h t_17 o_17 jv17_1 jv17_3 iv17_4 hv17_0; exact absurd hm17 (by omega)
        | succ n17 ih17 =>
          intro ls f_17 H locs v17_4 hm17 hl h t_17 o_17 jv17_1 jv17_3 iv17_4 hv17_0
          have L46 : ∀ (ls : Array Slot) (f_46 : hM) (H : Heap) (locs : List Loc), lv_has ls 11 [(0, .ref u0), (1, .int u1), (2, .int v9_2), (3, .int v9_3), (4, .int v17_4)] → hw D b0 s.heap f_46 H locs → TI G 9 τ f_46 → Fr [60, 70, 60019] τ f f_46 → v17_4.toInt ≤ u1.toInt → W p l e rm_s_X11_ranks s m args below meth c H locs 0 0 Q (F0 m 46 ls []) := by
            intro ls f_46 H locs hl h t_46 o_46 hv46_0
            have L85 : ∀ (n85 : Nat) (ls : Array Slot) (f_85 : hM) (H : Heap) (locs : List Loc) (v85_5 : Int32), 13 - v85_5.toInt < (n85 : Int) → lv_has ls 11 [(0, .ref u0), (1, .int u1), (2, .int v9_2), (3, .int v9_3), (4, .int v17_4), (5, .int v85_5)] → hw D b0 s.heap f_85 H locs → TI G 9 τ f_85 → Fr [60, 70, 60019] τ f f_85 → iv v85_5 0 13 → v17_4.toInt < u1.toInt → W p l e rm_s_X11_ranks s m args below meth c H locs 0 0 Q (F0 m 85 ls []) := by
              intro n85
              induction n85 with
              | zero => intro ls f_85 H locs v85_5 hm85 hl h t_85 o_85 iv85_5 hv85_0; exact absurd hm85 (by omega)
              | succ n85 ih85 =>
                intro ls f_85 H locs v85_5 hm85 hl h t_85 o_85 iv85_5 hv85_0
                have L184 : ∀ (n184 : Nat) (ls : Array Slot) (f_184 : hM) (H : Heap) (locs : List Loc) (v184_5 : Int64) (v184_7 : Int32), 14 - v184_7.toInt < (n184 : Int) → lv_has ls 11 [(0, .ref u0), (1, .int u1), (2, .int v9_2), (3, .int v9_3), (5, .long v184_5), (7, .int v184_7)] → hw D b0 s.heap f_184 H locs → TI G 9 τ f_184 → Fr [60, 70, 60019] τ f f_184 → iv v184_7 1 14 → W p l e rm_s_X11_ranks s m args below meth c H locs 0 0 Q (F0 m 184 ls []) := by
                  intro n184
                  induction n184 with
                  | zero => intro ls f_184 H locs v184_5 v184_7 hm184 hl h t_184 o_184 iv184_7; exact absurd hm184 (by omega)
                  | succ n184 ih184 =>
                    intro ls f_184 H locs v184_5 v184_7 hm184 hl h t_184 o_184 iv184_7
                    have L217 : ∀ (n217 : Nat) (ls : Array Slot) (f_217 : hM) (H : Heap) (locs : List Loc) (v217_8 : Int64) (v217_10 : Int32), 13 - v217_10.toInt < (n217 : Int) → lv_has ls 11 [(0, .ref u0), (1, .int u1), (2, .int v9_2), (3, .int v9_3), (5, .long v184_5), (7, .int v184_7), (8, .long v217_8), (10, .int v217_10)] → hw D b0 s.heap f_217 H locs → TI G 9 τ f_217 → Fr [60, 70, 60019] τ f f_217 → iv u1 2 13 → iv v184_7 1 12 → ivl v217_8 (-1000002) 1000002 → iv v217_10 0 13 → W p l e rm_s_X11_ranks s m args below meth c H locs 0 0 Q (F0 m 217 ls []) := by
                      intro n217
                      induction n217 with
                      | zero => intro ls f_217 H locs v217_8 v217_10 hm217 hl h t_217 o_217 jv217_1 jv217_7 iv217_8 iv217_10; exact absurd hm217 (by omega)
                      | succ n217 ih217 =>
                        intro ls f_217 H locs v217_8 v217_10 hm217 hl h t_217 o_217 jv217_1 jv217_7 iv217_8 iv217_10
                        refine lv_iload hx hb dX11_ranks_217 (lv_at hl 7 rfl) ?_
                        refine lv_iload_n hx hb dX11_ranks_219 rfl (lv_at hl 1 rfl) ?_
                        refine lv_icmp_ge (tgt := 279) hx hb dX11_ranks_220 (by decide) (fun c1 => ?_) (fun c1 => ?_)
                        · have c2 : u1.toInt ≤ v217_10.toInt := Int32.le_iff_toInt_le.mp c1
                          have i3 : iv v217_10 2 13 := iv_Er c2 jv217_1 iv217_10 (by decide)
                          refine i_inc hx hb dX11_ranks_279 hl (k := 5) rfl jv217_7 rfl (lo := 2) (hi := 13) (by decide) (by decide) (lv' := fun v => [(7, .int v), (0, .ref u0), (1, .int u1), (2, .int v9_2), (3, .int v9_3), (5, .long v184_5), (8, .long v217_8), (10, .int v217_10)]) (fun _ => rfl) (fun z6 ls ez6 mz6 iz6 hl => ?_)
                          refine lv_goto (tgt := 184) hx hb dX11_ranks_282 (by decide) ?_
                          exact ih184 ls f_217 H locs v184_5 z6 (show 14 - z6.toInt < _ by omega) (lv_cons hl 1 rfl (lv_cons hl 2 rfl (lv_cons hl 3 rfl (lv_cons hl 4 rfl (lv_cons hl 5 rfl (lv_cons hl 0 rfl (lv_nil hl))))))) h t_217 o_217 (iv_w iz6 (by decide))
                        · have c4 : v217_10.toInt < u1.toInt := Int32.lt_iff_toInt_lt.mp (iv_nle c1)
                          have i5 : iv v217_10 0 12 := iv_Ll c4 iv217_10 jv217_1 (by decide)
                          refine lv_aload_n hx hb dX11_ranks_223 rfl (lv_at hl 0 rfl) ?_
                          refine t_getr (tq := 70) C h t_217 hu0 (by decide) wf_60 rfl fl_X11_42 dX11_ranks_224 (fun q7 tq7 => ?_)
                          refine lv_bipush (v := 13) hx hb dX11_ranks_227 (by decide) ?_
                          refine lv_iload hx hb dX11_ranks_229 (lv_at hl 5 rfl) ?_
                          refine i_cmul hx hb dX11_ranks_231 (k := 13) rfl jv217_7 (lo := 13) (hi := 156) (by decide) (fun z8 ez8 mz8 iz8 => ?_)
                          refine lv_iload hx hb dX11_ranks_232 (lv_at hl 7 rfl) ?_
                          refine i_add hx hb dX11_ranks_234 iz8 i5 (lo := 13) (hi := 168) (by decide) (fun z9 ez9 mz9 iz9 => ?_)
                          refine lv_aload_n hx hb dX11_ranks_235 rfl (lv_at hl 0 rfl) ?_
                          refine t_getr (tq := 70) C h t_217 hu0 (by decide) wf_60 rfl fl_X11_42 dX11_ranks_236 (fun q10 tq10 => ?_)
                          refine lv_bipush (v := 13) hx hb dX11_ranks_239 (by decide) ?_
                          refine lv_iload hx hb dX11_ranks_241 (lv_at hl 5 rfl) ?_
                          refine i_cmul hx hb dX11_ranks_243 (k := 13) rfl jv217_7 (lo := 13) (hi := 156) (by decide) (fun z11 ez11 mz11 iz11 => ?_)
                          refine lv_iload hx hb dX11_ranks_244 (lv_at hl 7 rfl) ?_
                          refine i_add hx hb dX11_ranks_246 iz11 i5 (lo := 13) (hi := 168) (by decide) (fun z12 ez12 mz12 iz12 => ?_)
                          refine t_lald C h t_217 tq10 (by decide) wf_70 (iv_in iz12 (by decide)) dX11_ranks_247 (fun w13 => ?_)
                          refine lv_ldc2 (v := 1000003) hx hb hown (hts _ w_1719) dX11_ranks_248 ?_
                          refine lv_lload hx hb dX11_ranks_251 (lv_at hl 6 rfl) ?_
                          refine lv_lsub hx hb dX11_ranks_253 (lv_topl (fun w14 ew14 => ?_))
                          refine lv_aload_n hx hb dX11_ranks_254 rfl (lv_at hl 0 rfl) ?_
                          refine t_getr (tq := 70) C h t_217 hu0 (by decide) wf_60 rfl fl_X11_42 dX11_ranks_255 (fun q15 tq15 => ?_)
                          refine lv_bipush (v := 13) hx hb dX11_ranks_258 (by decide) ?_
                          refine lv_iload_n hx hb dX11_ranks_260 rfl (lv_at hl 2 rfl) ?_
                          refine i_cmul hx hb dX11_ranks_261 (k := 13) rfl iv9_2 (lo := 0) (hi := 169) (by decide) (fun z16 ez16 mz16 iz16 => ?_)
                          refine lv_iload hx hb dX11_ranks_262 (lv_at hl 7 rfl) ?_
                          refine i_add hx hb dX11_ranks_264 iz16 i5 (lo := 0) (hi := 181) (by decide) (fun z17 ez17 mz17 iz17 => ?_)
                          refine t_lald C h t_217 tq15 (by decide) wf_70 (ix_o (by omega)) dX11_ranks_265 (fun w18 => ?_)
                          refine lv_lmul hx hb dX11_ranks_266 (lv_topl (fun w19 ew19 => ?_))
                          refine lv_ladd hx hb dX11_ranks_267 (lv_topl (fun w20 ew20 => ?_))
                          refine lv_ldc2 (v := 1000003) hx hb hown (hts _ w_1719) dX11_ranks_268 ?_
                          refine lv_lrem hx hb dX11_ranks_271 (by decide) (i_topl (lrem_iv (k := 1000003) rfl (by decide) (lo := -1000002) (hi := 1000002) (by decide)) (fun w21 ew21 iw21 => ?_))
                          refine t_last C h t_217 o_217 tq7 (by decide) (by decide) wf_70 fw_70 (iv_in iz9 (by decide)) dX11_ranks_272 (fun f22 H locs h tf22 of22 hq => ?_)
                          refine i_inc hx hb dX11_ranks_273 hl (k := 7) rfl i5 rfl (lo := 1) (hi := 13) (by decide) (by decide) (lv' := fun v => [(10, .int v), (0, .ref u0), (1, .int u1), (2, .int v9_2), (3, .int v9_3), (5, .long v184_5), (7, .int v184_7), (8, .long v217_8)]) (fun _ => rfl) (fun z23 ls ez23 mz23 iz23 hl => ?_)
                          refine lv_goto (tgt := 217) hx hb dX11_ranks_276 (by decide) ?_
                          exact ih217 ls f22 H locs v217_8 z23 (show 13 - z23.toInt < _ by omega) (lv_cons hl 1 rfl (lv_cons hl 2 rfl (lv_cons hl 3 rfl (lv_cons hl 4 rfl (lv_cons hl 5 rfl (lv_cons hl 6 rfl (lv_cons hl 7 rfl (lv_cons hl 0 rfl (lv_nil hl))))))))) h tf22 of22 jv217_1 jv217_7 (ivl_w iv217_8 (by decide)) (iv_w iz23 (by decide))
                    refine lv_iload hx hb dX11_ranks_184 (lv_at hl 5 rfl) ?_
                    refine lv_iload_n hx hb dX11_ranks_186 rfl (lv_at hl 1 rfl) ?_
                    refine lv_icmp_ge (tgt := 285) hx hb dX11_ranks_187 (by decide) (fun c24 => ?_) (fun c24 => ?_)
                    · have c25 : u1.toInt ≤ v184_7.toInt := Int32.le_iff_toInt_le.mp c24
                      refine i_inc hx hb dX11_ranks_285 hl (k := 2) rfl iv9_2 rfl (lo := 1) (hi := 14) (by decide) (by decide) (lv' := fun v => [(2, .int v), (0, .ref u0), (1, .int u1), (3, .int v9_3), (5, .long v184_5), (7, .int v184_7)]) (fun _ => rfl) (fun z29 ls ez29 mz29 iz29 hl => ?_)
                      refine i_inc hx hb dX11_ranks_288 hl (k := 3) rfl jv17_3 rfl (lo := 1) (hi := 13) (by decide) (by decide) (lv' := fun v => [(3, .int v), (2, .int z29), (0, .ref u0), (1, .int u1), (5, .long v184_5), (7, .int v184_7)]) (fun _ => rfl) (fun z30 ls ez30 mz30 iz30 hl => ?_)
                      refine lv_goto (tgt := 9) hx hb dX11_ranks_291 (by decide) ?_
                      exact ih9 ls f_184 H locs z29 z30 (show 13 - z30.toInt < _ by omega) (lv_cons hl 2 rfl (lv_cons hl 3 rfl (lv_cons hl 1 rfl (lv_cons hl 0 rfl (lv_nil hl))))) h t_184 o_184 (show iv z29 0 13 from by omega) (iv_w iz30 (by decide)) (show z29.toInt ≤ z30.toInt by omega)
                    · have c26 : v184_7.toInt < u1.toInt := Int32.lt_iff_toInt_lt.mp (iv_nle c24)
                      have i27 : iv v184_7 1 12 := iv_Ll c26 iv184_7 jv17_1 (by decide)
                      have i28 : iv u1 2 13 := iv_Lr c26 iv184_7 jv17_1 (by decide)
                      refine lv_aload_n hx hb dX11_ranks_190 rfl (lv_at hl 0 rfl) ?_
                      refine t_getr (tq := 70) C h t_184 hu0 (by decide) wf_60 rfl fl_X11_42 dX11_ranks_191 (fun q31 tq31 => ?_)
                      refine lv_bipush (v := 13) hx hb dX11_ranks_194 (by decide) ?_
                      refine lv_iload hx hb dX11_ranks_196 (lv_at hl 5 rfl) ?_
                      refine i_cmul hx hb dX11_ranks_198 (k := 13) rfl i27 (lo := 13) (hi := 156) (by decide) (fun z32 ez32 mz32 iz32 => ?_)
                      refine lv_iload_n hx hb dX11_ranks_199 rfl (lv_at hl 3 rfl) ?_
                      refine i_add hx hb dX11_ranks_200 iz32 jv17_3 (lo := 13) (hi := 168) (by decide) (fun z33 ez33 mz33 iz33 => ?_)
                      refine t_lald C h t_184 tq31 (by decide) wf_70 (iv_in iz33 (by decide)) dX11_ranks_201 (fun w34 => ?_)
                      refine lv_lload hx hb dX11_ranks_202 (lv_at hl 4 rfl) ?_
                      refine k_l (r_S C h hl (As := [.long v184_5]) (rest := [.long w34]) (s_X11_inverse l D G b0 τ f_184 t_184 v184_5) mk_X11_inverse w_1800 w_1801 w_1802 ⟨Nat.le_of_ble_eq_true rfl, Nat.le_of_ble_eq_true rfl⟩ rfl (Nat.le_of_ble_eq_true rfl) ⟨Nat.le_of_ble_eq_true rfl, Nat.le_of_ble_eq_true rfl⟩ rfl dX11_ranks_204) h (fun r35 f36 H locs p37 h => ?_)
                      obtain ⟨ir35, tf36, ogf36⟩ := p37
                      have egf36 := Fr.nil2 ogf36
                      subst egf36
                      refine lv_lmul hx hb dX11_ranks_207 (lv_topl (fun w38 ew38 => ?_))
                      refine lv_ldc2 (v := 1000003) hx hb hown (hts _ w_1719) dX11_ranks_208 ?_
                      refine lv_lrem hx hb dX11_ranks_211 (by decide) (i_topl (lrem_iv (k := 1000003) rfl (by decide) (lo := -1000002) (hi := 1000002) (by decide)) (fun w39 ew39 iw39 => ?_))
                      refine lv_lstore (lv' := [(8, .long w39), (0, .ref u0), (1, .int u1), (2, .int v9_2), (3, .int v9_3), (5, .long v184_5), (7, .int v184_7)]) hx hb dX11_ranks_212 hl (by decide) rfl (fun ls hl => ?_)
                      refine lv_iconst (v := 0) hx hb dX11_ranks_214 (by decide) ?_
                      refine lv_istore (lv' := [(10, .int 0), (8, .long w39), (0, .ref u0), (1, .int u1), (2, .int v9_2), (3, .int v9_3), (5, .long v184_5), (7, .int v184_7)]) hx hb dX11_ranks_215 hl (by decide) rfl (fun ls hl => ?_)
                      exact L217 14 ls f_184 H locs w39 0 (by decide) (lv_cons hl 2 rfl (lv_cons hl 3 rfl (lv_cons hl 4 rfl (lv_cons hl 5 rfl (lv_cons hl 6 rfl (lv_cons hl 7 rfl (lv_cons hl 1 rfl (lv_cons hl 0 rfl (lv_nil hl))))))))) h t_184 o_184 i28 i27 (ivl_w iw39 (by decide)) ⟨by decide, by decide⟩
                refine lv_iload hx hb dX11_ranks_85 (lv_at hl 5 rfl) ?_
                refine lv_iload_n hx hb dX11_ranks_87 rfl (lv_at hl 1 rfl) ?_
                refine lv_icmp_ge (tgt := 151) hx hb dX11_ranks_88 (by decide) (fun c40 => ?_) (fun c40 => ?_)
                · have c41 : u1.toInt ≤ v85_5.toInt := Int32.le_iff_toInt_le.mp c40
                  have i42 : iv v85_5 1 13 := iv_Er c41 jv17_1 iv85_5 (by decide)
                  refine lv_aload_n hx hb dX11_ranks_151 rfl (lv_at hl 0 rfl) ?_
                  refine t_getr (tq := 70) C h t_85 hu0 (by decide) wf_60 rfl fl_X11_42 dX11_ranks_152 (fun q45 tq45 => ?_)
                  refine lv_bipush (v := 13) hx hb dX11_ranks_155 (by decide) ?_
                  refine lv_iload_n hx hb dX11_ranks_157 rfl (lv_at hl 2 rfl) ?_
                  refine i_cmul hx hb dX11_ranks_158 (k := 13) rfl iv9_2 (lo := 0) (hi := 169) (by decide) (fun z46 ez46 mz46 iz46 => ?_)
                  refine lv_iload_n hx hb dX11_ranks_159 rfl (lv_at hl 3 rfl) ?_
                  refine i_add hx hb dX11_ranks_160 iz46 jv17_3 (lo := 0) (hi := 181) (by decide) (fun z47 ez47 mz47 iz47 => ?_)
                  refine t_lald C h t_85 tq45 (by decide) wf_70 (ix_o (by omega)) dX11_ranks_161 (fun w48 => ?_)
                  refine lv_lstore (lv' := [(5, .long w48), (0, .ref u0), (1, .int u1), (2, .int v9_2), (3, .int v9_3), (4, .int v17_4)]) hx hb dX11_ranks_162 hl (by decide) rfl (fun ls hl => ?_)
                  refine lv_aload_n hx hb dX11_ranks_164 rfl (lv_at hl 1 rfl) ?_
                  refine lv_aload_n hx hb dX11_ranks_165 rfl (lv_at hl 1 rfl) ?_
                  refine t_getl C h t_85 hu0 (by decide) wf_60 rfl fl_X11_293 dX11_ranks_166 (fun w49 => ?_)
                  refine lv_lload hx hb dX11_ranks_169 (lv_at hl 0 rfl) ?_
                  refine lv_lmul hx hb dX11_ranks_171 (lv_topl (fun w50 ew50 => ?_))
                  refine lv_ldc2 (v := 1000003) hx hb hown (hts _ w_1719) dX11_ranks_172 ?_
                  refine lv_lrem hx hb dX11_ranks_175 (by decide) (i_topl (lrem_iv (k := 1000003) rfl (by decide) (lo := -1000002) (hi := 1000002) (by decide)) (fun w51 ew51 iw51 => ?_))
                  refine t_put C h t_85 o_85 hu0 (by decide) (by decide) (by decide) wf_60 fw_60 (k := 18) rfl flw_X11_293 (Or.inr ⟨_, _, _, rfl, rfl⟩) (v := .long w51) rfl rfl ⟨_, rfl⟩ dX11_ranks_176 (fun f52 H locs h tf52 of52 hq ha_ hn_ hk_ => ?_)
                  have k53 := ha_
                  refine lv_iload_n hx hb dX11_ranks_179 rfl (lv_at hl 3 rfl) ?_
                  refine lv_iconst (v := 1) hx hb dX11_ranks_180 (by decide) ?_
                  refine i_addk hx hb dX11_ranks_181 iv9_2 (k := 1) rfl (lo := 1) (hi := 14) (by decide) (fun z54 ez54 mz54 iz54 => ?_)
                  refine lv_istore (lv' := [(7, .int z54), (5, .long w48), (0, .ref u0), (1, .int u1), (2, .int v9_2), (3, .int v9_3), (4, .int v17_4)]) hx hb dX11_ranks_182 hl (by decide) rfl (fun ls hl => ?_)
                  exact L184 14 ls f52 H locs w48 z54 (show 14 - z54.toInt < _ by omega) (lv_cons hl 2 rfl (lv_cons hl 3 rfl (lv_cons hl 4 rfl (lv_cons hl 5 rfl (lv_cons hl 1 rfl (lv_cons hl 0 rfl (lv_nil hl))))))) h tf52 of52 iz54
                · have c43 : v85_5.toInt < u1.toInt := Int32.lt_iff_toInt_lt.mp (iv_nle c40)
                  have i44 : iv v85_5 0 12 := iv_Ll c43 iv85_5 jv17_1 (by decide)
                  refine lv_aload_n hx hb dX11_ranks_91 rfl (lv_at hl 0 rfl) ?_
                  refine t_getr (tq := 70) C h t_85 hu0 (by decide) wf_60 rfl fl_X11_42 dX11_ranks_92 (fun q55 tq55 => ?_)
                  refine lv_bipush (v := 13) hx hb dX11_ranks_95 (by decide) ?_
                  refine lv_iload hx hb dX11_ranks_97 (lv_at hl 4 rfl) ?_
                  refine i_cmul hx hb dX11_ranks_99 (k := 13) rfl iv17_4 (lo := 0) (hi := 169) (by decide) (fun z56 ez56 mz56 iz56 => ?_)
                  refine lv_iload hx hb dX11_ranks_100 (lv_at hl 5 rfl) ?_
                  refine i_add hx hb dX11_ranks_102 iz56 i44 (lo := 0) (hi := 181) (by decide) (fun z57 ez57 mz57 iz57 => ?_)
                  refine t_lald C h t_85 tq55 (by decide) wf_70 (ix_o (by omega)) dX11_ranks_103 (fun w58 => ?_)
                  refine lv_lstore (lv' := [(6, .long w58), (0, .ref u0), (1, .int u1), (2, .int v9_2), (3, .int v9_3), (4, .int v17_4), (5, .int v85_5)]) hx hb dX11_ranks_104 hl (by decide) rfl (fun ls hl => ?_)
                  refine lv_aload_n hx hb dX11_ranks_106 rfl (lv_at hl 1 rfl) ?_
                  refine t_getr (tq := 70) C h t_85 hu0 (by decide) wf_60 rfl fl_X11_42 dX11_ranks_107 (fun q59 tq59 => ?_)
                  refine lv_bipush (v := 13) hx hb dX11_ranks_110 (by decide) ?_
                  refine lv_iload hx hb dX11_ranks_112 (lv_at hl 5 rfl) ?_
                  refine i_cmul hx hb dX11_ranks_114 (k := 13) rfl iv17_4 (lo := 0) (hi := 169) (by decide) (fun z60 ez60 mz60 iz60 => ?_)
                  refine lv_iload hx hb dX11_ranks_115 (lv_at hl 6 rfl) ?_
                  refine i_add hx hb dX11_ranks_117 iz60 i44 (lo := 0) (hi := 181) (by decide) (fun z61 ez61 mz61 iz61 => ?_)
                  refine lv_aload_n hx hb dX11_ranks_118 rfl (lv_at hl 1 rfl) ?_
                  refine t_getr (tq := 70) C h t_85 hu0 (by decide) wf_60 rfl fl_X11_42 dX11_ranks_119 (fun q62 tq62 => ?_)
                  refine lv_bipush (v := 13) hx hb dX11_ranks_122 (by decide) ?_
                  refine lv_iload_n hx hb dX11_ranks_124 rfl (lv_at hl 3 rfl) ?_
                  refine i_cmul hx hb dX11_ranks_125 (k := 13) rfl iv9_2 (lo := 0) (hi := 169) (by decide) (fun z63 ez63 mz63 iz63 => ?_)
                  refine lv_iload hx hb dX11_ranks_126 (lv_at hl 6 rfl) ?_
                  refine i_add hx hb dX11_ranks_128 iz63 i44 (lo := 0) (hi := 181) (by decide) (fun z64 ez64 mz64 iz64 => ?_)
                  refine t_lald C h t_85 tq62 (by decide) wf_70 (ix_o (by omega)) dX11_ranks_129 (fun w65 => ?_)
                  refine t_last C h t_85 o_85 tq59 (by decide) (by decide) wf_70 fw_70 (ix_o (by omega)) dX11_ranks_130 (fun f66 H locs h tf66 of66 hq => ?_)
                  refine lv_aload_n hx hb dX11_ranks_131 rfl (lv_at hl 1 rfl) ?_
                  refine t_getr (tq := 70) C h tf66 hu0 (by decide) wf_60 rfl fl_X11_42 dX11_ranks_132 (fun q67 tq67 => ?_)
                  refine lv_bipush (v := 13) hx hb dX11_ranks_135 (by decide) ?_
                  refine lv_iload_n hx hb dX11_ranks_137 rfl (lv_at hl 3 rfl) ?_
                  refine i_cmul hx hb dX11_ranks_138 (k := 13) rfl iv9_2 (lo := 0) (hi := 169) (by decide) (fun z68 ez68 mz68 iz68 => ?_)
                  refine lv_iload hx hb dX11_ranks_139 (lv_at hl 6 rfl) ?_
                  refine i_add hx hb dX11_ranks_141 iz68 i44 (lo := 0) (hi := 181) (by decide) (fun z69 ez69 mz69 iz69 => ?_)
                  refine lv_lload hx hb dX11_ranks_142 (lv_at hl 0 rfl) ?_
                  refine t_last C h tf66 of66 tq67 (by decide) (by decide) wf_70 fw_70 (ix_o (by omega)) dX11_ranks_144 (fun f70 H locs h tf70 of70 hq => ?_)
                  refine i_inc hx hb dX11_ranks_145 hl (k := 6) rfl i44 rfl (lo := 1) (hi := 13) (by decide) (by decide) (lv' := fun v => [(5, .int v), (6, .long w58), (0, .ref u0), (1, .int u1), (2, .int v9_2), (3, .int v9_3), (4, .int v17_4)]) (fun _ => rfl) (fun z71 ls ez71 mz71 iz71 hl => ?_)
                  refine lv_goto (tgt := 85) hx hb dX11_ranks_148 (by decide) ?_
                  exact ih85 ls f70 H locs z71 (show 13 - z71.toInt < _ by omega) (lv_cons hl 2 rfl (lv_cons hl 3 rfl (lv_cons hl 4 rfl (lv_cons hl 5 rfl (lv_cons hl 6 rfl (lv_cons hl 0 rfl (lv_nil hl))))))) h tf70 of70 (iv_w iz71 (by decide)) (show v17_4.toInt < u1.toInt by omega)
            refine lv_iload hx hb dX11_ranks_46 (lv_at hl 4 rfl) ?_
            refine lv_iload_n hx hb dX11_ranks_48 rfl (lv_at hl 1 rfl) ?_
            refine lv_icmp_ne (tgt := 60) hx hb dX11_ranks_49 (by decide) (fun c72 => ?_) (fun c72 => ?_)
            · have c73 : v17_4.toInt ≠ u1.toInt := fun z_ => c72 (Int32.toInt_inj.mp z_)
              refine lv_iload hx hb dX11_ranks_60 (lv_at hl 4 rfl) ?_
              refine lv_iload_n hx hb dX11_ranks_62 rfl (lv_at hl 2 rfl) ?_
              refine lv_icmp_eq (tgt := 82) hx hb dX11_ranks_63 (by decide) (fun c76 => ?_) (fun c76 => ?_)
              · have c77 : v17_4.toInt = v9_2.toInt := congrArg Int32.toInt c76
                refine lv_iconst (v := 0) hx hb dX11_ranks_82 (by decide) ?_
                refine lv_istore (lv' := [(5, .int 0), (0, .ref u0), (1, .int u1), (2, .int v9_2), (3, .int v9_3), (4, .int v17_4)]) hx hb dX11_ranks_83 hl (by decide) rfl (fun ls hl => ?_)
                exact L85 14 ls f_46 H locs 0 (by decide) (lv_cons hl 1 rfl (lv_cons hl 2 rfl (lv_cons hl 3 rfl (lv_cons hl 4 rfl (lv_cons hl 5 rfl (lv_cons hl 0 rfl (lv_nil hl))))))) h t_46 o_46 ⟨by decide, by decide⟩ (show v17_4.toInt < u1.toInt by omega)
              · have c78 : v17_4.toInt ≠ v9_2.toInt := fun z_ => c76 (Int32.toInt_inj.mp z_)
                refine lv_aload_n hx hb dX11_ranks_66 rfl (lv_at hl 0 rfl) ?_
                refine lv_ldc2 (v := 1000003) hx hb hown (hts _ w_1719) dX11_ranks_67 ?_
                refine lv_aload_n hx hb dX11_ranks_70 rfl (lv_at hl 0 rfl) ?_
                refine t_getl C h t_46 hu0 (by decide) wf_60 rfl fl_X11_293 dX11_ranks_71 (fun w79 => ?_)
                refine lv_lsub hx hb dX11_ranks_74 (lv_topl (fun w80 ew80 => ?_))
                refine lv_ldc2 (v := 1000003) hx hb hown (hts _ w_1719) dX11_ranks_75 ?_
                refine lv_lrem hx hb dX11_ranks_78 (by decide) (i_topl (lrem_iv (k := 1000003) rfl (by decide) (lo := -1000002) (hi := 1000002) (by decide)) (fun w81 ew81 iw81 => ?_))
                refine t_put C h t_46 o_46 hu0 (by decide) (by decide) (by decide) wf_60 fw_60 (k := 18) rfl flw_X11_293 (Or.inr ⟨_, _, _, rfl, rfl⟩) (v := .long w81) rfl rfl ⟨_, rfl⟩ dX11_ranks_79 (fun f82 H locs h tf82 of82 hq ha_ hn_ hk_ => ?_)
                have k83 := ha_
                refine lv_iconst (v := 0) hx hb dX11_ranks_82 (by decide) ?_
                refine lv_istore (lv' := [(5, .int 0), (0, .ref u0), (1, .int u1), (2, .int v9_2), (3, .int v9_3), (4, .int v17_4)]) hx hb dX11_ranks_83 hl (by decide) rfl (fun ls hl => ?_)
                exact L85 14 ls f82 H locs 0 (by decide) (lv_cons hl 1 rfl (lv_cons hl 2 rfl (lv_cons hl 3 rfl (lv_cons hl 4 rfl (lv_cons hl 5 rfl (lv_cons hl 0 rfl (lv_nil hl))))))) h tf82 of82 ⟨by decide, by decide⟩ (show v17_4.toInt < u1.toInt by omega)
            · have c74 : v17_4.toInt = u1.toInt := congrArg Int32.toInt c72
              have i75 : iv v17_4 1 13 := iv_Q c74 iv17_4 jv17_1 (by decide)
              refine lv_aload_n hx hb dX11_ranks_52 rfl (lv_at hl 0 rfl) ?_
              refine lv_lconst (v := 0) hx hb dX11_ranks_53 (by decide) ?_
              refine t_put C h t_46 o_46 hu0 (by decide) (by decide) (by decide) wf_60 fw_60 (k := 18) rfl flw_X11_293 (Or.inr ⟨_, _, _, rfl, rfl⟩) (v := .long 0) rfl rfl ⟨_, rfl⟩ dX11_ranks_54 (fun f84 H locs h tf84 of84 hq ha_ hn_ hk_ => ?_)
              have k85 := ha_
              refine lv_goto (tgt := 288) hx hb dX11_ranks_57 (by decide) ?_
              refine i_inc hx hb dX11_ranks_288 hl (k := 3) rfl jv17_3 rfl (lo := 1) (hi := 13) (by decide) (by decide) (lv' := fun v => [(3, .int v), (0, .ref u0), (1, .int u1), (2, .int v9_2), (4, .int v17_4)]) (fun _ => rfl) (fun z86 ls ez86 mz86 iz86 hl => ?_)
              refine lv_goto (tgt := 9) hx hb dX11_ranks_291 (by decide) ?_
              exact ih9 ls f84 H locs v9_2 z86 (show 13 - z86.toInt < _ by omega) (lv_cons hl 1 rfl (lv_cons hl 2 rfl (lv_cons hl 3 rfl (lv_cons hl 0 rfl (lv_nil hl))))) h tf84 of84 iv9_2 (iv_w iz86 (by decide)) (show v9_2.toInt ≤ z86.toInt by omega)
          refine lv_iload hx hb dX11_ranks_17 (lv_at hl 4 rfl) ?_
          refine lv_iload_n hx hb dX11_ranks_19 rfl (lv_at hl 1 rfl) ?_
          refine lv_icmp_ge (tgt := 46) hx hb dX11_ranks_20 (by decide) (fun c87 => ?_) (fun c87 => ?_)
          · have c88 : u1.toInt ≤ v17_4.toInt := Int32.le_iff_toInt_le.mp c87
            have i89 : iv v17_4 1 13 := iv_Er c88 jv17_1 iv17_4 (by decide)
            exact L46 ls f_17 H locs (lv_cons hl 0 rfl (lv_cons hl 1 rfl (lv_cons hl 2 rfl (lv_cons hl 3 rfl (lv_cons hl 4 rfl (lv_nil hl)))))) h t_17 o_17 (show v17_4.toInt ≤ u1.toInt by omega)
          · have c90 : v17_4.toInt < u1.toInt := Int32.lt_iff_toInt_lt.mp (iv_nle c87)
            have i91 : iv v17_4 0 12 := iv_Ll c90 iv17_4 jv17_1 (by decide)
            refine lv_aload_n hx hb dX11_ranks_23 rfl (lv_at hl 0 rfl) ?_
            refine t_getr (tq := 70) C h t_17 hu0 (by decide) wf_60 rfl fl_X11_42 dX11_ranks_24 (fun q92 tq92 => ?_)
            refine lv_bipush (v := 13) hx hb dX11_ranks_27 (by decide) ?_
            refine lv_iload hx hb dX11_ranks_29 (lv_at hl 4 rfl) ?_
            refine i_cmul hx hb dX11_ranks_31 (k := 13) rfl i91 (lo := 0) (hi := 156) (by decide) (fun z93 ez93 mz93 iz93 => ?_)
            refine lv_iload_n hx hb dX11_ranks_32 rfl (lv_at hl 3 rfl) ?_
            refine i_add hx hb dX11_ranks_33 iz93 jv17_3 (lo := 0) (hi := 168) (by decide) (fun z94 ez94 mz94 iz94 => ?_)
            refine t_lald C h t_17 tq92 (by decide) wf_70 (iv_in iz94 (by decide)) dX11_ranks_34 (fun w95 => ?_)
            refine lv_lconst (v := 0) hx hb dX11_ranks_35 (by decide) ?_
            refine W.lcmp hx hb dX11_ranks_36 (i_topc (fun z96 ez96 mz96 iz96 => ?_))
            refine lv_if_ne (tgt := 46) hx hb dX11_ranks_37 (by decide) (fun c97 => ?_) (fun c97 => ?_)
            · have c98 : z96.toInt ≠ 0 := fun z_ => c97 (Int32.toInt_inj.mp z_)
              exact L46 ls f_17 H locs (lv_cons hl 0 rfl (lv_cons hl 1 rfl (lv_cons hl 2 rfl (lv_cons hl 3 rfl (lv_cons hl 4 rfl (lv_nil hl)))))) h t_17 o_17 (show v17_4.toInt ≤ u1.toInt by omega)
            · have c99 : z96.toInt = 0 := congrArg Int32.toInt c97
              have i100 : iv z96 0 0 := iv_Q c99 iz96 (iv_k (x := 0) (k := 0) rfl) (by decide)
              refine i_inc hx hb dX11_ranks_40 hl (k := 4) rfl i91 rfl (lo := 1) (hi := 13) (by decide) (by decide) (lv' := fun v => [(4, .int v), (0, .ref u0), (1, .int u1), (2, .int v9_2), (3, .int v9_3)]) (fun _ => rfl) (fun z101 ls ez101 mz101 iz101 hl => ?_)
              refine lv_goto (tgt := 17) hx hb dX11_ranks_43 (by decide) ?_
              exact ih17 ls f_17 H locs z101 (show 13 - z101.toInt < _ by omega) (lv_cons hl 1 rfl (lv_cons hl 2 rfl (lv_cons hl 3 rfl (lv_cons hl 4 rfl (lv_cons hl 0 rfl (lv_nil hl)))))) h t_17 o_17 jv17_1 jv17_3 (iv_w iz101 (by decide)) (show z101.toInt ≤ u1.toInt by omega)
      refine lv_iload_n hx hb dX11_ranks_9 rfl (lv_at hl 3 rfl) ?_
      refine lv_iload_n hx hb dX11_ranks_10 rfl (lv_at hl 1 rfl) ?_
      refine lv_icmp_ge (tgt := 294) hx hb dX11_ranks_11 (by decide) (fun c102 => ?_) (fun c102 => ?_)
      · have c103 : u1.toInt ≤ v9_3.toInt := Int32.le_iff_toInt_le.mp c102
        refine lv_iload_n hx hb dX11_ranks_294 rfl (lv_at hl 2 rfl) ?_
        exact u_iret C h hr hQ (⟨iv9_2, t_9, o_9⟩) (Nat.le_of_ble_eq_true rfl) (Nat.le_of_ble_eq_true rfl) dX11_ranks_295
      · have c104 : v9_3.toInt < u1.toInt := Int32.lt_iff_toInt_lt.mp (iv_nle c102)
        have i105 : iv v9_3 0 12 := iv_Ll c104 iv9_3 hu1 (by decide)
        have i106 : iv u1 1 13 := iv_Lr c104 iv9_3 hu1 (by decide)
        refine lv_iload_n hx hb dX11_ranks_14 rfl (lv_at hl 2 rfl) ?_
        refine lv_istore (lv' := [(4, .int v9_2), (0, .ref u0), (1, .int u1), (2, .int v9_2), (3, .int v9_3)]) hx hb dX11_ranks_15 hl (by decide) rfl (fun ls hl => ?_)
        exact L17 14 ls f_9 H locs v9_2 (show 13 - v9_2.toInt < _ by omega) (lv_cons hl 1 rfl (lv_cons hl 2 rfl (lv_cons hl 3 rfl (lv_cons hl 4 rfl (lv_cons hl 0 rfl (lv_nil hl)))))) h t_9 o_9 i106 i105 iv9_2 (show v9_2.toInt ≤ u1.toInt by omega)
  refine lv_iconst (v := 0) hx hb dX11_ranks_0 (by decide) ?_
  refine lv_istore_n (lv' := [(2, .int 0), (0, .ref u0), (1, .int u1)]) hx hb dX11_ranks_1 rfl hl (by decide) rfl (fun ls hl => ?_)
  refine lv_aload_n hx hb dX11_ranks_2 rfl (lv_at hl 1 rfl) ?_
  refine lv_lconst (v := 1) hx hb dX11_ranks_3 (by decide) ?_
  refine t_put C h t o hu0 (by decide) (by decide) (by decide) wf_60 fw_60 (k := 18) rfl flw_X11_293 (Or.inr ⟨_, _, _, rfl, rfl⟩) (v := .long 1) rfl rfl ⟨_, rfl⟩ dX11_ranks_4 (fun f107 H locs h tf107 of107 hq ha_ hn_ hk_ => ?_)
  have k108 := ha_
  refine lv_iconst (v := 0) hx hb dX11_ranks_7 (by decide) ?_
  refine lv_istore_n (lv' := [(3, .int 0), (2, .int 0), (0, .ref u0), (1, .int u1)]) hx hb dX11_ranks_8 rfl hl (by decide) rfl (fun ls hl => ?_)
  exact L9 14 ls f107 H locs 0 0 (by decide) (lv_cons hl 2 rfl (lv_cons hl 3 rfl (lv_cons hl 1 rfl (lv_cons hl 0 rfl (lv_nil hl))))) h tf107 of107 ⟨by decide, by decide⟩ ⟨by decide, by decide⟩ (show 0 ≤ 0 by omega)
abbrev rm_s_X11_hankel : Room := { frames := 4, cells := 0, slots := 0, locals := 100 }
set_option maxRecDepth 100000 in
set_option maxHeartbeats 4000000 in
theorem s_X11_hankel (l : Launch) (D : va_G) (G : Nat → Nat) (b0 : Nat) (τ : Nat → Nat) (f : hM) (t : TI G 9 τ f) (u0 : Nat) (hu0 : τ u0 = 60) (u1 : Int32) (hu1 : iv u1 (-2147483648) 2147483647) (u2 : Int32) (hu2 : iv u2 (-2147483648) 2147483647) (u3 : Int32) (hu3 : iv u3 (-2147483648) 2147483647) (hNG : NGs τ f u0) : mI l yX11_hankel cX11_hankel 6 (.int) rm_s_X11_hankel D G b0 f [.ref u0, .int u1, .int u2, .int u3] (fun r f1 => iv r (-2147483648) 2147483647 ∧ TI G 9 τ f1 ∧ Fr [60, 67, 69, 70, 60001, 60013, 60014, 60015, 60019] τ f f1 ∧ NGs τ f1 u0) := by
  refine met2 (own := RX11) (by decide) rfl (Nat.le_of_ble_eq_true rfl) ?_
  intro p e s m args below meth c ls Q hQ C hr hini hl h
  have hl : lv_has ls 6 [(0, .ref u0), (1, .int u1), (2, .int u2), (3, .int u3)] := hl
  obtain ⟨hx, hb, hml, hown, hts, hE0, hlk⟩ := id C
  have o := Fr.rf [60, 67, 69, 70, 60001, 60013, 60014, 60015, 60019] τ f
  have L58 : ∀ (n58 : Nat) (ls : Array Slot) (f_58 : hM) (H : Heap) (locs : List Loc) (v58_4 : Int32), 8 - v58_4.toInt < (n58 : Int) → lv_has ls 6 [(0, .ref u0), (3, .int u3), (4, .int v58_4)] → hw D b0 s.heap f_58 H locs → TI G 9 τ f_58 → Fr [60, 67, 69, 70, 60001, 60013, 60014, 60015, 60019] τ f f_58 → iv u3 1 8 → iv v58_4 0 8 → NGs τ f_58 u0 → W p l e rm_s_X11_hankel s m args below meth c H locs 0 0 Q (F0 m 58 ls []) := by
    intro n58
    induction n58 with
    | zero => intro ls f_58 H locs v58_4 hm58 hl h t_58 o_58 jv58_3 iv58_4 k58_u0_NG; exact absurd hm58 (by omega)
    | succ n58 ih58 =>
      intro ls f_58 H locs v58_4 hm58 hl h t_58 o_58 jv58_3 iv58_4 k58_u0_NG
      have L67 : ∀ (n67 : Nat) (ls : Array Slot) (f_67 : hM) (H : Heap) (locs : List Loc) (v67_5 : Int32), 8 - v67_5.toInt < (n67 : Int) → lv_has ls 6 [(0, .ref u0), (3, .int u3), (4, .int v58_4), (5, .int v67_5)] → hw D b0 s.heap f_67 H locs → TI G 9 τ f_67 → Fr [60, 67, 69, 70, 60001, 60013, 60014, 60015, 60019] τ f f_67 → iv v58_4 0 7 → iv v67_5 0 8 → NGs τ f_67 u0 → W p l e rm_s_X11_hankel s m args below meth c H locs 0 0 Q (F0 m 67 ls []) := by
        intro n67
        induction n67 with
        | zero => intro ls f_67 H locs v67_5 hm67 hl h t_67 o_67 jv67_4 iv67_5 k67_u0_NG; exact absurd hm67 (by omega)
        | succ n67 ih67 =>
          intro ls f_67 H locs v67_5 hm67 hl h t_67 o_67 jv67_4 iv67_5 k67_u0_NG
          refine lv_iload hx hb dX11_hankel_67 (lv_at hl 3 rfl) ?_
          refine lv_iload_n hx hb dX11_hankel_69 rfl (lv_at hl 1 rfl) ?_
          refine lv_icmp_ge (tgt := 103) hx hb dX11_hankel_70 (by decide) (fun c1 => ?_) (fun c1 => ?_)
          · have c2 : u3.toInt ≤ v67_5.toInt := Int32.le_iff_toInt_le.mp c1
            have i3 : iv v67_5 1 8 := iv_Er c2 jv58_3 iv67_5 (by decide)
            refine i_inc hx hb dX11_hankel_103 hl (k := 2) rfl jv67_4 rfl (lo := 1) (hi := 8) (by decide) (by decide) (lv' := fun v => [(4, .int v), (0, .ref u0), (3, .int u3), (5, .int v67_5)]) (fun _ => rfl) (fun z6 ls ez6 mz6 iz6 hl => ?_)
            refine lv_goto (tgt := 58) hx hb dX11_hankel_106 (by decide) ?_
            exact ih58 ls f_67 H locs z6 (show 8 - z6.toInt < _ by omega) (lv_cons hl 1 rfl (lv_cons hl 2 rfl (lv_cons hl 0 rfl (lv_nil hl)))) h t_67 o_67 jv58_3 (iv_w iz6 (by decide)) k67_u0_NG
          · have c4 : v67_5.toInt < u3.toInt := Int32.lt_iff_toInt_lt.mp (iv_nle c1)
            have i5 : iv v67_5 0 7 := iv_Ll c4 iv67_5 jv58_3 (by decide)
            refine lv_aload_n hx hb dX11_hankel_73 rfl (lv_at hl 0 rfl) ?_
            refine t_getr (tq := 70) C h t_67 hu0 (by decide) wf_60 rfl fl_X11_42 dX11_hankel_74 (fun q7 tq7 => ?_)
            refine lv_bipush (v := 13) hx hb dX11_hankel_77 (by decide) ?_
            refine lv_iload hx hb dX11_hankel_79 (lv_at hl 2 rfl) ?_
            refine i_cmul hx hb dX11_hankel_81 (k := 13) rfl jv67_4 (lo := 0) (hi := 91) (by decide) (fun z8 ez8 mz8 iz8 => ?_)
            refine lv_iload hx hb dX11_hankel_82 (lv_at hl 3 rfl) ?_
            refine i_add hx hb dX11_hankel_84 iz8 i5 (lo := 0) (hi := 98) (by decide) (fun z9 ez9 mz9 iz9 => ?_)
            refine lv_aload_n hx hb dX11_hankel_85 rfl (lv_at hl 0 rfl) ?_
            refine t_getr (tq := 69) C h t_67 hu0 (by decide) wf_60 rfl fl_X11_36 dX11_hankel_86 (fun q10 tq10 => ?_)
            refine lv_iload hx hb dX11_hankel_89 (lv_at hl 2 rfl) ?_
            refine lv_iload hx hb dX11_hankel_91 (lv_at hl 3 rfl) ?_
            refine i_add hx hb dX11_hankel_93 jv67_4 i5 (lo := 0) (hi := 14) (by decide) (fun z11 ez11 mz11 iz11 => ?_)
            refine t_iald C h t_67 tq10 (by decide) wf_69 (iv_in iz11 (by decide)) dX11_hankel_94 (fun z12 iz12 => ?_)
            refine lv_i2l hx hb dX11_hankel_95 rfl (i_topL iz12 (fun w13 ew13 mw13 iw13 => ?_))
            refine t_last C h t_67 o_67 tq7 (by decide) (by decide) wf_70 fw_70 (iv_in iz9 (by decide)) dX11_hankel_96 (fun f14 H locs h tf14 of14 hq => ?_)
            have k15 := NGs.tg k67_u0_NG hq hu0 (by decide)
            refine i_inc hx hb dX11_hankel_97 hl (k := 3) rfl i5 rfl (lo := 1) (hi := 8) (by decide) (by decide) (lv' := fun v => [(5, .int v), (0, .ref u0), (3, .int u3), (4, .int v58_4)]) (fun _ => rfl) (fun z16 ls ez16 mz16 iz16 hl => ?_)
            refine lv_goto (tgt := 67) hx hb dX11_hankel_100 (by decide) ?_
            exact ih67 ls f14 H locs z16 (show 8 - z16.toInt < _ by omega) (lv_cons hl 1 rfl (lv_cons hl 2 rfl (lv_cons hl 3 rfl (lv_cons hl 0 rfl (lv_nil hl))))) h tf14 of14 jv67_4 (iv_w iz16 (by decide)) k15
      refine lv_iload hx hb dX11_hankel_58 (lv_at hl 2 rfl) ?_
      refine lv_iload_n hx hb dX11_hankel_60 rfl (lv_at hl 1 rfl) ?_
      refine lv_icmp_ge (tgt := 109) hx hb dX11_hankel_61 (by decide) (fun c17 => ?_) (fun c17 => ?_)
      · have c18 : u3.toInt ≤ v58_4.toInt := Int32.le_iff_toInt_le.mp c17
        have i19 : iv v58_4 1 8 := iv_Er c18 jv58_3 iv58_4 (by decide)
        refine lv_aload_n hx hb dX11_hankel_109 rfl (lv_at hl 0 rfl) ?_
        refine lv_iload_n hx hb dX11_hankel_110 rfl (lv_at hl 1 rfl) ?_
        obtain ⟨_, r22⟩ := t_rec t_58 hu0 (by decide) wf_60
        refine k_i (r_V C h hl (As := [.int u3]) (rest := []) (s_X11_ranks l D G b0 τ f_58 t_58 u0 hu0 u3 (iv_w jv58_3 (by decide))) r22 (Cn := RX11) (T := TX11) (N := 32) rfl rfl mk_X11_ranks w_1796 w_1798 w_67 w_1799 ⟨Nat.le_of_ble_eq_true rfl, Nat.le_of_ble_eq_true rfl⟩ rfl (Nat.le_of_ble_eq_true rfl) ⟨Nat.le_of_ble_eq_true rfl, Nat.le_of_ble_eq_true rfl⟩ rfl dX11_hankel_111) h (fun r23 f24 H locs p25 h => ?_)
        obtain ⟨ir23, tf24, ogf24⟩ := p25
        have of24 : Fr [60, 67, 69, 70, 60001, 60013, 60014, 60015, 60019] τ f f24 := Fr.tr o_58 ogf24 (by decide) (by decide)
        have k26 := NGs.fr k58_u0_NG ogf24 hu0 (by decide)
        refine lv_istore (lv' := [(4, .int r23), (0, .ref u0), (3, .int u3)]) hx hb dX11_hankel_114 hl (by decide) rfl (fun ls hl => ?_)
        refine lv_iload hx hb dX11_hankel_116 (lv_at hl 0 rfl) ?_
        refine lv_iload_n hx hb dX11_hankel_118 rfl (lv_at hl 2 rfl) ?_
        refine lv_icmp_ge (tgt := 126) hx hb dX11_hankel_119 (by decide) (fun c27 => ?_) (fun c27 => ?_)
        · have c28 : u3.toInt ≤ r23.toInt := Int32.le_iff_toInt_le.mp c27
          have i29 : iv r23 1 13 := iv_Er c28 jv58_3 ir23 (by decide)
          refine lv_aload_n hx hb dX11_hankel_126 rfl (lv_at hl 1 rfl) ?_
          refine t_getl C h tf24 hu0 (by decide) wf_60 rfl fl_X11_293 dX11_hankel_127 (fun w32 => ?_)
          refine lv_l2i hx hb dX11_hankel_130 rfl (i_top (iv_any _) (fun z33 ez33 iz33 => ?_))
          exact u_iret C h hr hQ (⟨iz33, tf24, of24, k26⟩) (Nat.le_of_ble_eq_true rfl) (Nat.le_of_ble_eq_true rfl) dX11_hankel_131
        · have c30 : r23.toInt < u3.toInt := Int32.lt_iff_toInt_lt.mp (iv_nle c27)
          have i31 : iv r23 0 7 := iv_Ll c30 ir23 jv58_3 (by decide)
          refine lv_iconst (v := 0) hx hb dX11_hankel_122 (by decide) ?_
          refine lv_goto (tgt := 131) hx hb dX11_hankel_123 (by decide) ?_
          exact u_iret C h hr hQ (⟨⟨by decide, by decide⟩, tf24, of24, k26⟩) (Nat.le_of_ble_eq_true rfl) (Nat.le_of_ble_eq_true rfl) dX11_hankel_131
      · have c20 : v58_4.toInt < u3.toInt := Int32.lt_iff_toInt_lt.mp (iv_nle c17)
        have i21 : iv v58_4 0 7 := iv_Ll c20 iv58_4 jv58_3 (by decide)
        refine lv_iconst (v := 0) hx hb dX11_hankel_64 (by decide) ?_
        refine lv_istore (lv' := [(5, .int 0), (0, .ref u0), (3, .int u3), (4, .int v58_4)]) hx hb dX11_hankel_65 hl (by decide) rfl (fun ls hl => ?_)
        exact L67 9 ls f_58 H locs 0 (by decide) (lv_cons hl 1 rfl (lv_cons hl 2 rfl (lv_cons hl 3 rfl (lv_cons hl 0 rfl (lv_nil hl))))) h t_58 o_58 i21 ⟨by decide, by decide⟩ k58_u0_NG
  refine lv_aload_n hx hb dX11_hankel_0 rfl (lv_at hl 0 rfl) ?_
  refine lv_iconst (v := 0) hx hb dX11_hankel_1 (by decide) ?_
  refine t_put C h t o hu0 (by decide) (by decide) (by decide) wf_60 fw_60 (k := 0) rfl flw_X11_75 (Or.inr ⟨_, _, _, rfl, rfl⟩) (v := .int 0) rfl rfl ⟨_, rfl, ⟨by decide, by decide⟩⟩ dX11_hankel_2 (fun f34 H locs h tf34 of34 hq ha_ hn_ hk_ => ?_)
  have k35 := NGs.pk hNG hk_ (by decide) (by decide)
  have k36 := ha_
  refine lv_aload_n hx hb dX11_hankel_5 rfl (lv_at hl 0 rfl) ?_
  refine lv_iload_n hx hb dX11_hankel_6 rfl (lv_at hl 1 rfl) ?_
  obtain ⟨_, r37⟩ := t_rec tf34 hu0 (by decide) wf_60
  refine k_i (r_V C h hl (As := [.int u1]) (rest := []) (s_X11_isSet l D G b0 τ f34 tf34 u0 hu0 u1 hu1) r37 (Cn := RX11) (T := TX11) (N := 32) rfl rfl mk_X11_isSet w_1620 w_1622 w_51 w_1623 ⟨Nat.le_of_ble_eq_true rfl, Nat.le_of_ble_eq_true rfl⟩ rfl (Nat.le_of_ble_eq_true rfl) ⟨Nat.le_of_ble_eq_true rfl, Nat.le_of_ble_eq_true rfl⟩ rfl dX11_hankel_7) h (fun r38 f39 H locs p40 h => ?_)
  obtain ⟨ir38, tf39, ogf39, cnr38⟩ := p40
  have egf39 := Fr.nil2 ogf39
  subst egf39
  refine lv_if_eq (tgt := 37) hx hb dX11_hankel_10 (by decide) (fun c41 => ?_) (fun c41 => ?_)
  · have c42 : r38.toInt = 0 := congrArg Int32.toInt c41
    have i43 : iv r38 0 0 := iv_Q c42 ir38 (iv_k (x := 0) (k := 0) rfl) (by decide)
    refine lv_iconst (v := -1) hx hb dX11_hankel_37 (by decide) ?_
    exact u_iret C h hr hQ (⟨⟨by decide, by decide⟩, tf34, of34, k35⟩) (Nat.le_of_ble_eq_true rfl) (Nat.le_of_ble_eq_true rfl) dX11_hankel_38
  · have c44 : r38.toInt ≠ 0 := fun z_ => c41 (Int32.toInt_inj.mp z_)
    have i45 : iv r38 1 1 := iv_Nl c44 ir38 (by decide)
    have i46 := cnr38 c44
    refine lv_iload_n hx hb dX11_hankel_13 rfl (lv_at hl 2 rfl) ?_
    refine lv_i2l hx hb dX11_hankel_14 rfl (i_topL hu2 (fun w47 ew47 mw47 iw47 => ?_))
    refine lv_lconst (v := 0) hx hb dX11_hankel_15 (by decide) ?_
    refine lv_ldc2 (v := 4) hx hb hown (hts _ w_1730) dX11_hankel_16 ?_
    refine k_i (r_S C h hl (As := [.long w47, .long 0, .long 4]) (rest := []) (s_X11_isIn l D G b0 τ f34 tf34 w47 0 4) mk_X11_isIn w_1624 w_1625 w_1626 ⟨Nat.le_of_ble_eq_true rfl, Nat.le_of_ble_eq_true rfl⟩ rfl (Nat.le_of_ble_eq_true rfl) ⟨Nat.le_of_ble_eq_true rfl, Nat.le_of_ble_eq_true rfl⟩ rfl dX11_hankel_19) h (fun r48 f49 H locs p50 h => ?_)
    have n51 : (0 : Int64).toInt = 0 := rfl
    have n52 : (4 : Int64).toInt = 4 := rfl
    obtain ⟨ir48, tf49, ogf49, cnr48⟩ := p50
    have egf49 := Fr.nil2 ogf49
    subst egf49
    refine lv_if_eq (tgt := 37) hx hb dX11_hankel_22 (by decide) (fun c53 => ?_) (fun c53 => ?_)
    · have c54 : r48.toInt = 0 := congrArg Int32.toInt c53
      have i55 : iv r48 0 0 := iv_Q c54 ir48 (iv_k (x := 0) (k := 0) rfl) (by decide)
      refine lv_iconst (v := -1) hx hb dX11_hankel_37 (by decide) ?_
      exact u_iret C h hr hQ (⟨⟨by decide, by decide⟩, tf34, of34, k35⟩) (Nat.le_of_ble_eq_true rfl) (Nat.le_of_ble_eq_true rfl) dX11_hankel_38
    · have c56 : r48.toInt ≠ 0 := fun z_ => c53 (Int32.toInt_inj.mp z_)
      have i57 : iv r48 1 1 := iv_Nl c56 ir48 (by decide)
      obtain ⟨i58, i59⟩ := cnr48 c56
      have i60 : iv u2 0 4 := ⟨by omega, by omega⟩
      refine lv_iload_n hx hb dX11_hankel_25 rfl (lv_at hl 3 rfl) ?_
      refine lv_i2l hx hb dX11_hankel_26 rfl (i_topL hu3 (fun w61 ew61 mw61 iw61 => ?_))
      refine lv_lconst (v := 1) hx hb dX11_hankel_27 (by decide) ?_
      refine lv_ldc2 (v := 8) hx hb hown (hts _ w_1795) dX11_hankel_28 ?_
      refine k_i (r_S C h hl (As := [.long w61, .long 1, .long 8]) (rest := []) (s_X11_isIn l D G b0 τ f34 tf34 w61 1 8) mk_X11_isIn w_1624 w_1625 w_1626 ⟨Nat.le_of_ble_eq_true rfl, Nat.le_of_ble_eq_true rfl⟩ rfl (Nat.le_of_ble_eq_true rfl) ⟨Nat.le_of_ble_eq_true rfl, Nat.le_of_ble_eq_true rfl⟩ rfl dX11_hankel_31) h (fun r62 f63 H locs p64 h => ?_)
      have n65 : (1 : Int64).toInt = 1 := rfl
      have n66 : (8 : Int64).toInt = 8 := rfl
      obtain ⟨ir62, tf63, ogf63, cnr62⟩ := p64
      have egf63 := Fr.nil2 ogf63
      subst egf63
      refine lv_if_ne (tgt := 39) hx hb dX11_hankel_34 (by decide) (fun c67 => ?_) (fun c67 => ?_)
      · have c68 : r62.toInt ≠ 0 := fun z_ => c67 (Int32.toInt_inj.mp z_)
        have i69 : iv r62 1 1 := iv_Nl c68 ir62 (by decide)
        obtain ⟨i70, i71⟩ := cnr62 c68
        have i72 : iv u3 1 8 := ⟨by omega, by omega⟩
        refine lv_aload_n hx hb dX11_hankel_39 rfl (lv_at hl 0 rfl) ?_
        refine lv_iload_n hx hb dX11_hankel_40 rfl (lv_at hl 1 rfl) ?_
        refine lv_iload_n hx hb dX11_hankel_41 rfl (lv_at hl 2 rfl) ?_
        refine lv_iconst (v := 0) hx hb dX11_hankel_42 (by decide) ?_
        refine lv_iconst (v := 2) hx hb dX11_hankel_43 (by decide) ?_
        refine lv_iload_n hx hb dX11_hankel_44 rfl (lv_at hl 3 rfl) ?_
        refine i_cmul hx hb dX11_hankel_45 (k := 2) rfl i72 (lo := 2) (hi := 16) (by decide) (fun z75 ez75 mz75 iz75 => ?_)
        refine lv_iconst (v := 2) hx hb dX11_hankel_46 (by decide) ?_
        refine i_subk hx hb dX11_hankel_47 iz75 (k := 2) rfl (lo := 0) (hi := 14) (by decide) (fun z76 ez76 mz76 iz76 => ?_)
        refine lv_aload_n hx hb dX11_hankel_48 rfl (lv_at hl 0 rfl) ?_
        refine t_getr (tq := 69) C h tf34 hu0 (by decide) wf_60 rfl fl_X11_36 dX11_hankel_49 (fun q77 tq77 => ?_)
        obtain ⟨_, r78⟩ := t_rec tf34 hu0 (by decide) wf_60
        refine k_v (r_V C h hl (As := [.int u1, .int u2, .int 0, .int z76, .ref q77]) (rest := []) (s_X11_laysTerms l D G b0 τ f34 tf34 u0 hu0 u1 i46 u2 (iv_w i60 (by decide)) 0 (iv_w (iv_k (x := 0) (k := 0) rfl) (by decide)) z76 (iv_w iz76 (by decide)) q77 tq77 k35) r78 (Cn := RX11) (T := TX11) (N := 32) rfl rfl mk_X11_laysTerms w_1757 w_1759 w_64 w_1760 ⟨Nat.le_of_ble_eq_true rfl, Nat.le_of_ble_eq_true rfl⟩ rfl (Nat.le_of_ble_eq_true rfl) ⟨Nat.le_of_ble_eq_true rfl, Nat.le_of_ble_eq_true rfl⟩ rfl dX11_hankel_52) h (fun f80 H locs p81 h => ?_)
        obtain ⟨tf80, ogf80, ngf80⟩ := p81
        have of80 : Fr [60, 67, 69, 70, 60001, 60013, 60014, 60015, 60019] τ f f80 := Fr.tr of34 ogf80 (by decide) (by decide)
        refine lv_iconst (v := 0) hx hb dX11_hankel_55 (by decide) ?_
        refine lv_istore (lv' := [(4, .int 0), (0, .ref u0), (1, .int u1), (2, .int u2), (3, .int u3)]) hx hb dX11_hankel_56 hl (by decide) rfl (fun ls hl => ?_)
        exact L58 9 ls f80 H locs 0 (by decide) (lv_cons hl 1 rfl (lv_cons hl 4 rfl (lv_cons hl 0 rfl (lv_nil hl)))) h tf80 of80 i72 ⟨by decide, by decide⟩ ngf80
      · have c73 : r62.toInt = 0 := congrArg Int32.toInt c67
        have i74 : iv r62 0 0 := iv_Q c73 ir62 (iv_k (x := 0) (k := 0) rfl) (by decide)
        refine lv_iconst (v := -1) hx hb dX11_hankel_37 (by decide) ?_
        exact u_iret C h hr hQ (⟨⟨by decide, by decide⟩, tf34, of34, k35⟩) (Nat.le_of_ble_eq_true rfl) (Nat.le_of_ble_eq_true rfl) dX11_hankel_38
abbrev rm_s_X11_rank : Room := { frames := 3, cells := 0, slots := 0, locals := 83 }
set_option maxRecDepth 100000 in
set_option maxHeartbeats 4000000 in
theorem s_X11_rank (l : Launch) (D : va_G) (G : Nat → Nat) (b0 : Nat) (τ : Nat → Nat) (f : hM) (t : TI G 9 τ f) (u0 : Nat) (hu0 : τ u0 = 60) (u1 : Int32) (hu1 : iv u1 (-2147483648) 2147483647) (u2 : Int32) (hu2 : iv u2 (-2147483648) 2147483647) (hNG : NGs τ f u0) : mI l yX11_rank cX11_rank 5 (.int) rm_s_X11_rank D G b0 f [.ref u0, .int u1, .int u2] (fun r f1 => iv r (-1) 13 ∧ TI G 9 τ f1 ∧ Fr [60, 67, 70, 60001, 60013, 60014, 60015, 60019] τ f f1 ∧ NGs τ f1 u0) := by
  refine met2 (own := RX11) (by decide) rfl (Nat.le_of_ble_eq_true rfl) ?_
  intro p e s m args below meth c ls Q hQ C hr hini hl h
  have hl : lv_has ls 5 [(0, .ref u0), (1, .int u1), (2, .int u2)] := hl
  obtain ⟨hx, hb, hml, hown, hts, hE0, hlk⟩ := id C
  have o := Fr.rf [60, 67, 70, 60001, 60013, 60014, 60015, 60019] τ f
  have L37 : ∀ (n37 : Nat) (ls : Array Slot) (f_37 : hM) (H : Heap) (locs : List Loc) (v37_3 : Int32) (g37_u0_14 : Int32), 13 - v37_3.toInt < (n37 : Int) → lv_has ls 5 [(0, .ref u0), (3, .int v37_3)] → hw D b0 s.heap f_37 H locs → TI G 9 τ f_37 → Fr [60, 67, 70, 60001, 60013, 60014, 60015, 60019] τ f f_37 → iv v37_3 0 13 → iv g37_u0_14 0 60 → NGs τ f_37 u0 → atp f_37 u0 (fd 14 (.int g37_u0_14)) → W p l e rm_s_X11_rank s m args below meth c H locs 0 0 Q (F0 m 37 ls []) := by
    intro n37
    induction n37 with
    | zero => intro ls f_37 H locs v37_3 g37_u0_14 hm37 hl h t_37 o_37 iv37_3 ig37_u0_14 k37_u0_NG k37_u0_14; exact absurd hm37 (by omega)
    | succ n37 ih37 =>
      intro ls f_37 H locs v37_3 g37_u0_14 hm37 hl h t_37 o_37 iv37_3 ig37_u0_14 k37_u0_NG k37_u0_14
      have L46 : ∀ (n46 : Nat) (ls : Array Slot) (f_46 : hM) (H : Heap) (locs : List Loc) (v46_4 : Int32), 13 - v46_4.toInt < (n46 : Int) → lv_has ls 5 [(0, .ref u0), (3, .int v37_3), (4, .int v46_4)] → hw D b0 s.heap f_46 H locs → TI G 9 τ f_46 → Fr [60, 67, 70, 60001, 60013, 60014, 60015, 60019] τ f f_46 → iv v37_3 0 12 → iv v46_4 0 13 → NGs τ f_46 u0 → atp f_46 u0 (fd 14 (.int g37_u0_14)) → W p l e rm_s_X11_rank s m args below meth c H locs 0 0 Q (F0 m 46 ls []) := by
        intro n46
        induction n46 with
        | zero => intro ls f_46 H locs v46_4 hm46 hl h t_46 o_46 jv46_3 iv46_4 k46_u0_NG k46_u0_14; exact absurd hm46 (by omega)
        | succ n46 ih46 =>
          intro ls f_46 H locs v46_4 hm46 hl h t_46 o_46 jv46_3 iv46_4 k46_u0_NG k46_u0_14
          refine lv_iload hx hb dX11_rank_46 (lv_at hl 2 rfl) ?_
          refine lv_bipush (v := 13) hx hb dX11_rank_48 (by decide) ?_
          refine lv_icmp_ge (tgt := 82) hx hb dX11_rank_50 (by decide) (fun c1 => ?_) (fun c1 => ?_)
          · have c2 : 13 ≤ v46_4.toInt := Int32.le_iff_toInt_le.mp c1
            have i3 : iv v46_4 13 13 := iv_Er c2 (iv_k (x := 13) (k := 13) rfl) iv46_4 (by decide)
            refine i_inc hx hb dX11_rank_82 hl (k := 1) rfl jv46_3 rfl (lo := 1) (hi := 13) (by decide) (by decide) (lv' := fun v => [(3, .int v), (0, .ref u0), (4, .int v46_4)]) (fun _ => rfl) (fun z6 ls ez6 mz6 iz6 hl => ?_)
            refine lv_goto (tgt := 37) hx hb dX11_rank_85 (by decide) ?_
            exact ih37 ls f_46 H locs z6 g37_u0_14 (show 13 - z6.toInt < _ by omega) (lv_cons hl 1 rfl (lv_cons hl 0 rfl (lv_nil hl))) h t_46 o_46 (iv_w iz6 (by decide)) ig37_u0_14 k46_u0_NG k46_u0_14
          · have c4 : v46_4.toInt < 13 := Int32.lt_iff_toInt_lt.mp (iv_nle c1)
            have i5 : iv v46_4 0 12 := iv_Ll c4 iv46_4 (iv_k (x := 13) (k := 13) rfl) (by decide)
            refine lv_aload_n hx hb dX11_rank_53 rfl (lv_at hl 0 rfl) ?_
            refine t_getr (tq := 70) C h t_46 hu0 (by decide) wf_60 rfl fl_X11_42 dX11_rank_54 (fun q7 tq7 => ?_)
            refine lv_bipush (v := 13) hx hb dX11_rank_57 (by decide) ?_
            refine lv_iload_n hx hb dX11_rank_59 rfl (lv_at hl 1 rfl) ?_
            refine i_cmul hx hb dX11_rank_60 (k := 13) rfl jv46_3 (lo := 0) (hi := 156) (by decide) (fun z8 ez8 mz8 iz8 => ?_)
            refine lv_iload hx hb dX11_rank_61 (lv_at hl 2 rfl) ?_
            refine i_add hx hb dX11_rank_63 iz8 i5 (lo := 0) (hi := 168) (by decide) (fun z9 ez9 mz9 iz9 => ?_)
            refine lv_aload_n hx hb dX11_rank_64 rfl (lv_at hl 0 rfl) ?_
            refine t_getr (tq := 67) C h t_46 hu0 (by decide) wf_60 rfl fl_X11_29 dX11_rank_65 (fun q10 tq10 => ?_)
            refine lv_iload_n hx hb dX11_rank_68 rfl (lv_at hl 1 rfl) ?_
            refine lv_iload hx hb dX11_rank_69 (lv_at hl 2 rfl) ?_
            refine k_i (r_S C h hl (As := [.int v37_3, .int v46_4]) (rest := [.ref q10, .int z9, .ref q7]) (s_X11_cell l D G b0 τ f_46 t_46 v37_3 (iv_w jv46_3 (by decide)) v46_4 (iv_w i5 (by decide))) mk_X11_cell w_1706 w_1707 w_1708 ⟨Nat.le_of_ble_eq_true rfl, Nat.le_of_ble_eq_true rfl⟩ rfl (Nat.le_of_ble_eq_true rfl) ⟨Nat.le_of_ble_eq_true rfl, Nat.le_of_ble_eq_true rfl⟩ rfl dX11_rank_71) h (fun r11 f12 H locs p13 h => ?_)
            obtain ⟨ir11, tf12, ogf12, x0r11⟩ := p13
            have egf12 := Fr.nil2 ogf12
            subst egf12
            refine t_lald C h t_46 tq10 (by decide) wf_67 (iv_in ir11 (by decide)) dX11_rank_74 (fun w14 => ?_)
            refine t_last C h t_46 o_46 tq7 (by decide) (by decide) wf_70 fw_70 (iv_in iz9 (by decide)) dX11_rank_75 (fun f15 H locs h tf15 of15 hq => ?_)
            have k16 := NGs.tg k46_u0_NG hq hu0 (by decide)
            have k17 := atp.tg k46_u0_14 hq hu0 (by decide)
            refine i_inc hx hb dX11_rank_76 hl (k := 2) rfl i5 rfl (lo := 1) (hi := 13) (by decide) (by decide) (lv' := fun v => [(4, .int v), (0, .ref u0), (3, .int v37_3)]) (fun _ => rfl) (fun z18 ls ez18 mz18 iz18 hl => ?_)
            refine lv_goto (tgt := 46) hx hb dX11_rank_79 (by decide) ?_
            exact ih46 ls f15 H locs z18 (show 13 - z18.toInt < _ by omega) (lv_cons hl 1 rfl (lv_cons hl 2 rfl (lv_cons hl 0 rfl (lv_nil hl)))) h tf15 of15 jv46_3 (iv_w iz18 (by decide)) k16 k17
      refine lv_iload_n hx hb dX11_rank_37 rfl (lv_at hl 1 rfl) ?_
      refine lv_bipush (v := 13) hx hb dX11_rank_38 (by decide) ?_
      refine lv_icmp_ge (tgt := 88) hx hb dX11_rank_40 (by decide) (fun c19 => ?_) (fun c19 => ?_)
      · have c20 : 13 ≤ v37_3.toInt := Int32.le_iff_toInt_le.mp c19
        have i21 : iv v37_3 13 13 := iv_Er c20 (iv_k (x := 13) (k := 13) rfl) iv37_3 (by decide)
        refine lv_aload_n hx hb dX11_rank_88 rfl (lv_at hl 0 rfl) ?_
        refine lv_bipush (v := 13) hx hb dX11_rank_89 (by decide) ?_
        obtain ⟨_, r24⟩ := t_rec t_37 hu0 (by decide) wf_60
        refine k_i (r_V C h hl (As := [.int 13]) (rest := []) (s_X11_ranks l D G b0 τ f_37 t_37 u0 hu0 13 (iv_w (iv_k (x := 13) (k := 13) rfl) (by decide))) r24 (Cn := RX11) (T := TX11) (N := 32) rfl rfl mk_X11_ranks w_1796 w_1798 w_67 w_1799 ⟨Nat.le_of_ble_eq_true rfl, Nat.le_of_ble_eq_true rfl⟩ rfl (Nat.le_of_ble_eq_true rfl) ⟨Nat.le_of_ble_eq_true rfl, Nat.le_of_ble_eq_true rfl⟩ rfl dX11_rank_91) h (fun r25 f26 H locs p27 h => ?_)
        obtain ⟨ir25, tf26, ogf26⟩ := p27
        have of26 : Fr [60, 67, 70, 60001, 60013, 60014, 60015, 60019] τ f f26 := Fr.tr o_37 ogf26 (by decide) (by decide)
        have k28 := NGs.fr k37_u0_NG ogf26 hu0 (by decide)
        have k29 := atp.fk k37_u0_14 ogf26 hu0 (by decide) (by decide)
        exact u_iret C h hr hQ (⟨(iv_w ir25 (by decide)), tf26, of26, k28⟩) (Nat.le_of_ble_eq_true rfl) (Nat.le_of_ble_eq_true rfl) dX11_rank_94
      · have c22 : v37_3.toInt < 13 := Int32.lt_iff_toInt_lt.mp (iv_nle c19)
        have i23 : iv v37_3 0 12 := iv_Ll c22 iv37_3 (iv_k (x := 13) (k := 13) rfl) (by decide)
        refine lv_iconst (v := 0) hx hb dX11_rank_43 (by decide) ?_
        refine lv_istore (lv' := [(4, .int 0), (0, .ref u0), (3, .int v37_3)]) hx hb dX11_rank_44 hl (by decide) rfl (fun ls hl => ?_)
        exact L46 14 ls f_37 H locs 0 (by decide) (lv_cons hl 1 rfl (lv_cons hl 2 rfl (lv_cons hl 0 rfl (lv_nil hl)))) h t_37 o_37 i23 ⟨by decide, by decide⟩ k37_u0_NG k37_u0_14
  refine lv_aload_n hx hb dX11_rank_0 rfl (lv_at hl 0 rfl) ?_
  refine lv_iconst (v := 0) hx hb dX11_rank_1 (by decide) ?_
  refine t_put C h t o hu0 (by decide) (by decide) (by decide) wf_60 fw_60 (k := 0) rfl flw_X11_75 (Or.inr ⟨_, _, _, rfl, rfl⟩) (v := .int 0) rfl rfl ⟨_, rfl, ⟨by decide, by decide⟩⟩ dX11_rank_2 (fun f30 H locs h tf30 of30 hq ha_ hn_ hk_ => ?_)
  have k31 := NGs.pk hNG hk_ (by decide) (by decide)
  have k32 := ha_
  refine lv_aload_n hx hb dX11_rank_5 rfl (lv_at hl 0 rfl) ?_
  refine lv_iload_n hx hb dX11_rank_6 rfl (lv_at hl 1 rfl) ?_
  obtain ⟨_, r33⟩ := t_rec tf30 hu0 (by decide) wf_60
  refine k_i (r_V C h hl (As := [.int u1]) (rest := []) (s_X11_isSet l D G b0 τ f30 tf30 u0 hu0 u1 hu1) r33 (Cn := RX11) (T := TX11) (N := 32) rfl rfl mk_X11_isSet w_1620 w_1622 w_51 w_1623 ⟨Nat.le_of_ble_eq_true rfl, Nat.le_of_ble_eq_true rfl⟩ rfl (Nat.le_of_ble_eq_true rfl) ⟨Nat.le_of_ble_eq_true rfl, Nat.le_of_ble_eq_true rfl⟩ rfl dX11_rank_7) h (fun r34 f35 H locs p36 h => ?_)
  obtain ⟨ir34, tf35, ogf35, cnr34⟩ := p36
  have egf35 := Fr.nil2 ogf35
  subst egf35
  refine lv_if_eq (tgt := 25) hx hb dX11_rank_10 (by decide) (fun c37 => ?_) (fun c37 => ?_)
  · have c38 : r34.toInt = 0 := congrArg Int32.toInt c37
    have i39 : iv r34 0 0 := iv_Q c38 ir34 (iv_k (x := 0) (k := 0) rfl) (by decide)
    refine lv_iconst (v := -1) hx hb dX11_rank_25 (by decide) ?_
    exact u_iret C h hr hQ (⟨⟨by decide, by decide⟩, tf30, of30, k31⟩) (Nat.le_of_ble_eq_true rfl) (Nat.le_of_ble_eq_true rfl) dX11_rank_26
  · have c40 : r34.toInt ≠ 0 := fun z_ => c37 (Int32.toInt_inj.mp z_)
    have i41 : iv r34 1 1 := iv_Nl c40 ir34 (by decide)
    have i42 := cnr34 c40
    refine lv_iload_n hx hb dX11_rank_13 rfl (lv_at hl 2 rfl) ?_
    refine lv_i2l hx hb dX11_rank_14 rfl (i_topL hu2 (fun w43 ew43 mw43 iw43 => ?_))
    refine lv_lconst (v := 0) hx hb dX11_rank_15 (by decide) ?_
    refine lv_ldc2 (v := 12) hx hb hown (hts _ w_1811) dX11_rank_16 ?_
    refine k_i (r_S C h hl (As := [.long w43, .long 0, .long 12]) (rest := []) (s_X11_isIn l D G b0 τ f30 tf30 w43 0 12) mk_X11_isIn w_1624 w_1625 w_1626 ⟨Nat.le_of_ble_eq_true rfl, Nat.le_of_ble_eq_true rfl⟩ rfl (Nat.le_of_ble_eq_true rfl) ⟨Nat.le_of_ble_eq_true rfl, Nat.le_of_ble_eq_true rfl⟩ rfl dX11_rank_19) h (fun r44 f45 H locs p46 h => ?_)
    have n47 : (0 : Int64).toInt = 0 := rfl
    have n48 : (12 : Int64).toInt = 12 := rfl
    obtain ⟨ir44, tf45, ogf45, cnr44⟩ := p46
    have egf45 := Fr.nil2 ogf45
    subst egf45
    refine lv_if_ne (tgt := 27) hx hb dX11_rank_22 (by decide) (fun c49 => ?_) (fun c49 => ?_)
    · have c50 : r44.toInt ≠ 0 := fun z_ => c49 (Int32.toInt_inj.mp z_)
      have i51 : iv r44 1 1 := iv_Nl c50 ir44 (by decide)
      obtain ⟨i52, i53⟩ := cnr44 c50
      have i54 : iv u2 0 12 := ⟨by omega, by omega⟩
      refine lv_aload_n hx hb dX11_rank_27 rfl (lv_at hl 0 rfl) ?_
      refine lv_iload_n hx hb dX11_rank_28 rfl (lv_at hl 1 rfl) ?_
      refine lv_iconst (v := 0) hx hb dX11_rank_29 (by decide) ?_
      refine lv_iconst (v := 1) hx hb dX11_rank_30 (by decide) ?_
      refine lv_iload_n hx hb dX11_rank_31 rfl (lv_at hl 2 rfl) ?_
      obtain ⟨_, r57⟩ := t_rec tf30 hu0 (by decide) wf_60
      refine k_v (r_V C h hl (As := [.int u1, .int 0, .int 1, .int u2]) (rest := []) (s_X11_goesOn l D G b0 τ f30 tf30 u0 hu0 u1 i42 0 (iv_w (iv_k (x := 0) (k := 0) rfl) (by decide)) 1 (iv_w (iv_k (x := 1) (k := 1) rfl) (by decide)) u2 (iv_w i54 (by decide)) k31) r57 (Cn := RX11) (T := TX11) (N := 32) rfl rfl mk_X11_goesOn w_1698 w_1700 w_57 w_1701 ⟨Nat.le_of_ble_eq_true rfl, Nat.le_of_ble_eq_true rfl⟩ rfl (Nat.le_of_ble_eq_true rfl) ⟨Nat.le_of_ble_eq_true rfl, Nat.le_of_ble_eq_true rfl⟩ rfl dX11_rank_32) h (fun f59 H locs p60 h => ?_)
      have n61 : (0 : Int32).toInt = 0 := rfl
      have n62 : (1 : Int32).toInt = 1 := rfl
      obtain ⟨tf59, ogf59, ⟨gg_f59, kpu0_14f59, ipu0_14f59, rpu0_14f59⟩, ngf59⟩ := p60
      have of59 : Fr [60, 67, 70, 60001, 60013, 60014, 60015, 60019] τ f f59 := Fr.tr of30 ogf59 (by decide) (by decide)
      refine lv_iconst (v := 0) hx hb dX11_rank_35 (by decide) ?_
      refine lv_istore_n (lv' := [(3, .int 0), (0, .ref u0), (1, .int u1), (2, .int u2)]) hx hb dX11_rank_36 rfl hl (by decide) rfl (fun ls hl => ?_)
      exact L37 14 ls f59 H locs 0 gg_f59 (by decide) (lv_cons hl 1 rfl (lv_cons hl 0 rfl (lv_nil hl))) h tf59 of59 ⟨by decide, by decide⟩ ipu0_14f59 ngf59 kpu0_14f59
    · have c55 : r44.toInt = 0 := congrArg Int32.toInt c49
      have i56 : iv r44 0 0 := iv_Q c55 ir44 (iv_k (x := 0) (k := 0) rfl) (by decide)
      refine lv_iconst (v := -1) hx hb dX11_rank_25 (by decide) ?_
      exact u_iret C h hr hQ (⟨⟨by decide, by decide⟩, tf30, of30, k31⟩) (Nat.le_of_ble_eq_true rfl) (Nat.le_of_ble_eq_true rfl) dX11_rank_26
abbrev rm_s_X11_ratio : Room := { frames := 4, cells := 0, slots := 0, locals := 100 }
set_option maxRecDepth 100000 in
set_option maxHeartbeats 4000000 in
theorem s_X11_ratio (l : Launch) (D : va_G) (G : Nat → Nat) (b0 : Nat) (τ : Nat → Nat) (f : hM) (t : TI G 9 τ f) (u0 : Nat) (hu0 : τ u0 = 60) (u1 : Int32) (hu1 : iv u1 (-2147483648) 2147483647) (u2 : Int32) (hu2 : iv u2 (-2147483648) 2147483647) (u3 : Int32) (hu3 : iv u3 (-2147483648) 2147483647) (hNG : NGs τ f u0) : mI l yX11_ratio cX11_ratio 4 (.int) rm_s_X11_ratio D G b0 f [.ref u0, .int u1, .int u2, .int u3] (fun r f1 => iv r (-1000002) 1000002 ∧ TI G 9 τ f1 ∧ Fr [60, 67, 69, 60001, 60013, 60014, 60015] τ f f1 ∧ NGs τ f1 u0) := by
  refine met2 (own := RX11) (by decide) rfl (Nat.le_of_ble_eq_true rfl) ?_
  intro p e s m args below meth c ls Q hQ C hr hini hl h
  have hl : lv_has ls 4 [(0, .ref u0), (1, .int u1), (2, .int u2), (3, .int u3)] := hl
  obtain ⟨hx, hb, hml, hown, hts, hE0, hlk⟩ := id C
  have o := Fr.rf [60, 67, 69, 60001, 60013, 60014, 60015] τ f
  refine lv_aload_n hx hb dX11_ratio_0 rfl (lv_at hl 0 rfl) ?_
  refine lv_iconst (v := 0) hx hb dX11_ratio_1 (by decide) ?_
  refine t_put C h t o hu0 (by decide) (by decide) (by decide) wf_60 fw_60 (k := 0) rfl flw_X11_75 (Or.inr ⟨_, _, _, rfl, rfl⟩) (v := .int 0) rfl rfl ⟨_, rfl, ⟨by decide, by decide⟩⟩ dX11_ratio_2 (fun f1 H locs h tf1 of1 hq ha_ hn_ hk_ => ?_)
  have k2 := NGs.pk hNG hk_ (by decide) (by decide)
  have k3 := ha_
  refine lv_aload_n hx hb dX11_ratio_5 rfl (lv_at hl 0 rfl) ?_
  refine lv_iload_n hx hb dX11_ratio_6 rfl (lv_at hl 1 rfl) ?_
  obtain ⟨_, r4⟩ := t_rec tf1 hu0 (by decide) wf_60
  refine k_i (r_V C h hl (As := [.int u1]) (rest := []) (s_X11_isSet l D G b0 τ f1 tf1 u0 hu0 u1 hu1) r4 (Cn := RX11) (T := TX11) (N := 32) rfl rfl mk_X11_isSet w_1620 w_1622 w_51 w_1623 ⟨Nat.le_of_ble_eq_true rfl, Nat.le_of_ble_eq_true rfl⟩ rfl (Nat.le_of_ble_eq_true rfl) ⟨Nat.le_of_ble_eq_true rfl, Nat.le_of_ble_eq_true rfl⟩ rfl dX11_ratio_7) h (fun r5 f6 H locs p7 h => ?_)
  obtain ⟨ir5, tf6, ogf6, cnr5⟩ := p7
  have egf6 := Fr.nil2 ogf6
  subst egf6
  refine lv_if_eq (tgt := 37) hx hb dX11_ratio_10 (by decide) (fun c8 => ?_) (fun c8 => ?_)
  · have c9 : r5.toInt = 0 := congrArg Int32.toInt c8
    have i10 : iv r5 0 0 := iv_Q c9 ir5 (iv_k (x := 0) (k := 0) rfl) (by decide)
    refine lv_iconst (v := -1) hx hb dX11_ratio_37 (by decide) ?_
    exact u_iret C h hr hQ (⟨⟨by decide, by decide⟩, tf1, of1, k2⟩) (Nat.le_of_ble_eq_true rfl) (Nat.le_of_ble_eq_true rfl) dX11_ratio_38
  · have c11 : r5.toInt ≠ 0 := fun z_ => c8 (Int32.toInt_inj.mp z_)
    have i12 : iv r5 1 1 := iv_Nl c11 ir5 (by decide)
    have i13 := cnr5 c11
    refine lv_iload_n hx hb dX11_ratio_13 rfl (lv_at hl 2 rfl) ?_
    refine lv_i2l hx hb dX11_ratio_14 rfl (i_topL hu2 (fun w14 ew14 mw14 iw14 => ?_))
    refine lv_lconst (v := 0) hx hb dX11_ratio_15 (by decide) ?_
    refine lv_ldc2 (v := 4) hx hb hown (hts _ w_1730) dX11_ratio_16 ?_
    refine k_i (r_S C h hl (As := [.long w14, .long 0, .long 4]) (rest := []) (s_X11_isIn l D G b0 τ f1 tf1 w14 0 4) mk_X11_isIn w_1624 w_1625 w_1626 ⟨Nat.le_of_ble_eq_true rfl, Nat.le_of_ble_eq_true rfl⟩ rfl (Nat.le_of_ble_eq_true rfl) ⟨Nat.le_of_ble_eq_true rfl, Nat.le_of_ble_eq_true rfl⟩ rfl dX11_ratio_19) h (fun r15 f16 H locs p17 h => ?_)
    have n18 : (0 : Int64).toInt = 0 := rfl
    have n19 : (4 : Int64).toInt = 4 := rfl
    obtain ⟨ir15, tf16, ogf16, cnr15⟩ := p17
    have egf16 := Fr.nil2 ogf16
    subst egf16
    refine lv_if_eq (tgt := 37) hx hb dX11_ratio_22 (by decide) (fun c20 => ?_) (fun c20 => ?_)
    · have c21 : r15.toInt = 0 := congrArg Int32.toInt c20
      have i22 : iv r15 0 0 := iv_Q c21 ir15 (iv_k (x := 0) (k := 0) rfl) (by decide)
      refine lv_iconst (v := -1) hx hb dX11_ratio_37 (by decide) ?_
      exact u_iret C h hr hQ (⟨⟨by decide, by decide⟩, tf1, of1, k2⟩) (Nat.le_of_ble_eq_true rfl) (Nat.le_of_ble_eq_true rfl) dX11_ratio_38
    · have c23 : r15.toInt ≠ 0 := fun z_ => c20 (Int32.toInt_inj.mp z_)
      have i24 : iv r15 1 1 := iv_Nl c23 ir15 (by decide)
      obtain ⟨i25, i26⟩ := cnr15 c23
      have i27 : iv u2 0 4 := ⟨by omega, by omega⟩
      refine lv_iload_n hx hb dX11_ratio_25 rfl (lv_at hl 3 rfl) ?_
      refine lv_i2l hx hb dX11_ratio_26 rfl (i_topL hu3 (fun w28 ew28 mw28 iw28 => ?_))
      refine lv_lconst (v := 1) hx hb dX11_ratio_27 (by decide) ?_
      refine lv_ldc2 (v := 60) hx hb hown (hts _ w_1692) dX11_ratio_28 ?_
      refine k_i (r_S C h hl (As := [.long w28, .long 1, .long 60]) (rest := []) (s_X11_isIn l D G b0 τ f1 tf1 w28 1 60) mk_X11_isIn w_1624 w_1625 w_1626 ⟨Nat.le_of_ble_eq_true rfl, Nat.le_of_ble_eq_true rfl⟩ rfl (Nat.le_of_ble_eq_true rfl) ⟨Nat.le_of_ble_eq_true rfl, Nat.le_of_ble_eq_true rfl⟩ rfl dX11_ratio_31) h (fun r29 f30 H locs p31 h => ?_)
      have n32 : (1 : Int64).toInt = 1 := rfl
      have n33 : (60 : Int64).toInt = 60 := rfl
      obtain ⟨ir29, tf30, ogf30, cnr29⟩ := p31
      have egf30 := Fr.nil2 ogf30
      subst egf30
      refine lv_if_ne (tgt := 39) hx hb dX11_ratio_34 (by decide) (fun c34 => ?_) (fun c34 => ?_)
      · have c35 : r29.toInt ≠ 0 := fun z_ => c34 (Int32.toInt_inj.mp z_)
        have i36 : iv r29 1 1 := iv_Nl c35 ir29 (by decide)
        obtain ⟨i37, i38⟩ := cnr29 c35
        have i39 : iv u3 1 60 := ⟨by omega, by omega⟩
        refine lv_aload_n hx hb dX11_ratio_39 rfl (lv_at hl 0 rfl) ?_
        refine lv_iload_n hx hb dX11_ratio_40 rfl (lv_at hl 1 rfl) ?_
        refine lv_iload_n hx hb dX11_ratio_41 rfl (lv_at hl 2 rfl) ?_
        refine lv_iconst (v := 0) hx hb dX11_ratio_42 (by decide) ?_
        refine lv_iload_n hx hb dX11_ratio_43 rfl (lv_at hl 3 rfl) ?_
        refine lv_aload_n hx hb dX11_ratio_44 rfl (lv_at hl 0 rfl) ?_
        refine t_getr (tq := 69) C h tf1 hu0 (by decide) wf_60 rfl fl_X11_36 dX11_ratio_45 (fun q42 tq42 => ?_)
        obtain ⟨_, r43⟩ := t_rec tf1 hu0 (by decide) wf_60
        refine k_v (r_V C h hl (As := [.int u1, .int u2, .int 0, .int u3, .ref q42]) (rest := []) (s_X11_laysTerms l D G b0 τ f1 tf1 u0 hu0 u1 i13 u2 (iv_w i27 (by decide)) 0 (iv_w (iv_k (x := 0) (k := 0) rfl) (by decide)) u3 (iv_w i39 (by decide)) q42 tq42 k2) r43 (Cn := RX11) (T := TX11) (N := 32) rfl rfl mk_X11_laysTerms w_1757 w_1759 w_64 w_1760 ⟨Nat.le_of_ble_eq_true rfl, Nat.le_of_ble_eq_true rfl⟩ rfl (Nat.le_of_ble_eq_true rfl) ⟨Nat.le_of_ble_eq_true rfl, Nat.le_of_ble_eq_true rfl⟩ rfl dX11_ratio_48) h (fun f45 H locs p46 h => ?_)
        obtain ⟨tf45, ogf45, ngf45⟩ := p46
        have of45 : Fr [60, 67, 69, 60001, 60013, 60014, 60015] τ f f45 := Fr.tr of1 ogf45 (by decide) (by decide)
        refine lv_aload_n hx hb dX11_ratio_51 rfl (lv_at hl 0 rfl) ?_
        refine t_getr (tq := 69) C h tf45 hu0 (by decide) wf_60 rfl fl_X11_36 dX11_ratio_52 (fun q47 tq47 => ?_)
        refine lv_iload_n hx hb dX11_ratio_55 rfl (lv_at hl 3 rfl) ?_
        refine lv_iconst (v := 1) hx hb dX11_ratio_56 (by decide) ?_
        refine i_subk hx hb dX11_ratio_57 i39 (k := 1) rfl (lo := 0) (hi := 59) (by decide) (fun z48 ez48 mz48 iz48 => ?_)
        refine t_iald C h tf45 tq47 (by decide) wf_69 (iv_in iz48 (by decide)) dX11_ratio_58 (fun z49 iz49 => ?_)
        refine lv_if_ne (tgt := 66) hx hb dX11_ratio_59 (by decide) (fun c50 => ?_) (fun c50 => ?_)
        · have c51 : z49.toInt ≠ 0 := fun z_ => c50 (Int32.toInt_inj.mp z_)
          refine lv_aload_n hx hb dX11_ratio_66 rfl (lv_at hl 0 rfl) ?_
          refine t_getr (tq := 69) C h tf45 hu0 (by decide) wf_60 rfl fl_X11_36 dX11_ratio_67 (fun q54 tq54 => ?_)
          refine lv_iload_n hx hb dX11_ratio_70 rfl (lv_at hl 3 rfl) ?_
          refine t_iald C h tf45 tq54 (by decide) wf_69 (iv_in i39 (by decide)) dX11_ratio_71 (fun z55 iz55 => ?_)
          refine lv_i2l hx hb dX11_ratio_72 rfl (i_topL iz55 (fun w56 ew56 mw56 iw56 => ?_))
          refine lv_aload_n hx hb dX11_ratio_73 rfl (lv_at hl 0 rfl) ?_
          refine t_getr (tq := 69) C h tf45 hu0 (by decide) wf_60 rfl fl_X11_36 dX11_ratio_74 (fun q57 tq57 => ?_)
          refine lv_iload_n hx hb dX11_ratio_77 rfl (lv_at hl 3 rfl) ?_
          refine lv_iconst (v := 1) hx hb dX11_ratio_78 (by decide) ?_
          refine i_subk hx hb dX11_ratio_79 i39 (k := 1) rfl (lo := 0) (hi := 59) (by decide) (fun z58 ez58 mz58 iz58 => ?_)
          refine t_iald C h tf45 tq57 (by decide) wf_69 (iv_in iz58 (by decide)) dX11_ratio_80 (fun z59 iz59 => ?_)
          refine lv_i2l hx hb dX11_ratio_81 rfl (i_topL iz59 (fun w60 ew60 mw60 iw60 => ?_))
          refine k_l (r_S C h hl (As := [.long w60]) (rest := [.long w56]) (s_X11_inverse l D G b0 τ f45 tf45 w60) mk_X11_inverse w_1800 w_1801 w_1802 ⟨Nat.le_of_ble_eq_true rfl, Nat.le_of_ble_eq_true rfl⟩ rfl (Nat.le_of_ble_eq_true rfl) ⟨Nat.le_of_ble_eq_true rfl, Nat.le_of_ble_eq_true rfl⟩ rfl dX11_ratio_82) h (fun r61 f62 H locs p63 h => ?_)
          obtain ⟨ir61, tf62, ogf62⟩ := p63
          have egf62 := Fr.nil2 ogf62
          subst egf62
          refine lv_lmul hx hb dX11_ratio_85 (lv_topl (fun w64 ew64 => ?_))
          refine lv_ldc2 (v := 1000003) hx hb hown (hts _ w_1719) dX11_ratio_86 ?_
          refine lv_lrem hx hb dX11_ratio_89 (by decide) (i_topl (lrem_iv (k := 1000003) rfl (by decide) (lo := -1000002) (hi := 1000002) (by decide)) (fun w65 ew65 iw65 => ?_))
          refine lv_l2i hx hb dX11_ratio_90 rfl (i_top (iv_l2i iw65 (by decide)) (fun z66 ez66 iz66 => ?_))
          exact u_iret C h hr hQ (⟨iz66, tf45, of45, ngf45⟩) (Nat.le_of_ble_eq_true rfl) (Nat.le_of_ble_eq_true rfl) dX11_ratio_91
        · have c52 : z49.toInt = 0 := congrArg Int32.toInt c50
          have i53 : iv z49 0 0 := iv_Q c52 iz49 (iv_k (x := 0) (k := 0) rfl) (by decide)
          refine lv_iconst (v := -1) hx hb dX11_ratio_62 (by decide) ?_
          refine lv_goto (tgt := 91) hx hb dX11_ratio_63 (by decide) ?_
          exact u_iret C h hr hQ (⟨⟨by decide, by decide⟩, tf45, of45, ngf45⟩) (Nat.le_of_ble_eq_true rfl) (Nat.le_of_ble_eq_true rfl) dX11_ratio_91
      · have c40 : r29.toInt = 0 := congrArg Int32.toInt c34
        have i41 : iv r29 0 0 := iv_Q c40 ir29 (iv_k (x := 0) (k := 0) rfl) (by decide)
        refine lv_iconst (v := -1) hx hb dX11_ratio_37 (by decide) ?_
        exact u_iret C h hr hQ (⟨⟨by decide, by decide⟩, tf1, of1, k2⟩) (Nat.le_of_ble_eq_true rfl) (Nat.le_of_ble_eq_true rfl) dX11_ratio_38
abbrev rm_s_X11_walksTo : Room := { frames := 3, cells := 0, slots := 0, locals := 83 }
set_option maxRecDepth 100000 in
set_option maxHeartbeats 4000000 in
theorem s_X11_walksTo (l : Launch) (D : va_G) (G : Nat → Nat) (b0 : Nat) (τ : Nat → Nat) (f : hM) (t : TI G 9 τ f) (u0 : Nat) (hu0 : τ u0 = 60) (u1 : Int32) (hu1 : iv u1 0 7) (u2 : Int32) (hu2 : iv u2 0 10) (u3 : Int32) (hu3 : iv u3 (-2147483648) 2147483647) (u4 : Int32) (hu4 : iv u4 (-2147483648) 2147483647) (hNG : NGs τ f u0) : mL l yX11_walksTo cX11_walksTo 5 rm_s_X11_walksTo D G b0 f [.ref u0, .int u1, .int u2, .int u3, .int u4] (fun r f1 => TI G 9 τ f1 ∧ Fr [60, 67, 60013, 60014, 60015] τ f f1 ∧ NGs τ f1 u0) := by
  refine met2 (own := RX11) (by decide) rfl (Nat.le_of_ble_eq_true rfl) ?_
  intro p e s m args below meth c ls Q hQ C hr hini hl h
  have hl : lv_has ls 5 [(0, .ref u0), (1, .int u1), (2, .int u2), (3, .int u3), (4, .int u4)] := hl
  obtain ⟨hx, hb, hml, hown, hts, hE0, hlk⟩ := id C
  have o := Fr.rf [60, 67, 60013, 60014, 60015] τ f
  refine lv_aload_n hx hb dX11_walksTo_0 rfl (lv_at hl 0 rfl) ?_
  refine lv_iload_n hx hb dX11_walksTo_1 rfl (lv_at hl 1 rfl) ?_
  refine lv_iconst (v := 0) hx hb dX11_walksTo_2 (by decide) ?_
  refine lv_iconst (v := 3) hx hb dX11_walksTo_3 (by decide) ?_
  refine lv_iload_n hx hb dX11_walksTo_4 rfl (lv_at hl 2 rfl) ?_
  obtain ⟨_, r1⟩ := t_rec t hu0 (by decide) wf_60
  refine k_v (r_V C h hl (As := [.int u1, .int 0, .int 3, .int u2]) (rest := []) (s_X11_goesOn l D G b0 τ f t u0 hu0 u1 hu1 0 (iv_w (iv_k (x := 0) (k := 0) rfl) (by decide)) 3 (iv_w (iv_k (x := 3) (k := 3) rfl) (by decide)) u2 (iv_w hu2 (by decide)) hNG) r1 (Cn := RX11) (T := TX11) (N := 32) rfl rfl mk_X11_goesOn w_1698 w_1700 w_57 w_1701 ⟨Nat.le_of_ble_eq_true rfl, Nat.le_of_ble_eq_true rfl⟩ rfl (Nat.le_of_ble_eq_true rfl) ⟨Nat.le_of_ble_eq_true rfl, Nat.le_of_ble_eq_true rfl⟩ rfl dX11_walksTo_5) h (fun f3 H locs p4 h => ?_)
  have n5 : (0 : Int32).toInt = 0 := rfl
  have n6 : (3 : Int32).toInt = 3 := rfl
  obtain ⟨tf3, ogf3, ⟨gg_f3, kpu0_14f3, ipu0_14f3, rpu0_14f3⟩, ngf3⟩ := p4
  have of3 : Fr [60, 67, 60013, 60014, 60015] τ f f3 := Fr.tr o ogf3 (by decide) (by decide)
  refine lv_aload_n hx hb dX11_walksTo_8 rfl (lv_at hl 0 rfl) ?_
  refine lv_iload_n hx hb dX11_walksTo_9 rfl (lv_at hl 3 rfl) ?_
  refine lv_iload hx hb dX11_walksTo_10 (lv_at hl 4 rfl) ?_
  obtain ⟨_, r7⟩ := t_rec tf3 hu0 (by decide) wf_60
  refine k_l (r_V C h hl (As := [.int u3, .int u4]) (rest := []) (s_X11_gridAt l D G b0 τ f3 tf3 u0 hu0 u3 hu3 u4 hu4) r7 (Cn := RX11) (T := TX11) (N := 32) rfl rfl mk_X11_gridAt w_1720 w_1722 w_60 w_1723 ⟨Nat.le_of_ble_eq_true rfl, Nat.le_of_ble_eq_true rfl⟩ rfl (Nat.le_of_ble_eq_true rfl) ⟨Nat.le_of_ble_eq_true rfl, Nat.le_of_ble_eq_true rfl⟩ rfl dX11_walksTo_12) h (fun r8 f9 H locs p10 h => ?_)
  obtain ⟨tf9, ogf9⟩ := p10
  have egf9 := Fr.nil2 ogf9
  subst egf9
  exact u_lret C h hr hQ (⟨tf3, of3, ngf3⟩) (Nat.le_of_ble_eq_true rfl) (Nat.le_of_ble_eq_true rfl) dX11_walksTo_15
abbrev rm_s_X11_peak : Room := { frames := 3, cells := 0, slots := 0, locals := 83 }
set_option maxRecDepth 100000 in
set_option maxHeartbeats 4000000 in
theorem s_X11_peak (l : Launch) (D : va_G) (G : Nat → Nat) (b0 : Nat) (τ : Nat → Nat) (f : hM) (t : TI G 9 τ f) (u0 : Nat) (hu0 : τ u0 = 60) (u1 : Int32) (hu1 : iv u1 (-2147483648) 2147483647) (u2 : Int32) (hu2 : iv u2 (-2147483648) 2147483647) (u3 : Int32) (hu3 : iv u3 (-2147483648) 2147483647) (hNG : NGs τ f u0) : mI l yX11_peak cX11_peak 10 (.int) rm_s_X11_peak D G b0 f [.ref u0, .int u1, .int u2, .int u3] (fun r f1 => iv r (-2147483648) 2147483647 ∧ TI G 9 τ f1 ∧ Fr [60, 67, 60001, 60013, 60014, 60015] τ f f1 ∧ NGs τ f1 u0) := by
  refine met2 (own := RX11) (by decide) rfl (Nat.le_of_ble_eq_true rfl) ?_
  intro p e s m args below meth c ls Q hQ C hr hini hl h
  have hl : lv_has ls 10 [(0, .ref u0), (1, .int u1), (2, .int u2), (3, .int u3)] := hl
  obtain ⟨hx, hb, hml, hown, hts, hE0, hlk⟩ := id C
  have o := Fr.rf [60, 67, 60001, 60013, 60014, 60015] τ f
  have L56 : ∀ (n56 : Nat) (ls : Array Slot) (f_56 : hM) (H : Heap) (locs : List Loc) (v56_4 : Int64) (v56_6 : Int32) (v56_7 : Int32) (v56_8 : Int32) (g56_u0_14 : Int32), 75 - v56_8.toInt < (n56 : Int) → lv_has ls 10 [(0, .ref u0), (3, .int u3), (4, .long v56_4), (6, .int v56_6), (7, .int v56_7), (8, .int v56_8)] → hw D b0 s.heap f_56 H locs → TI G 9 τ f_56 → Fr [60, 67, 60001, 60013, 60014, 60015] τ f f_56 → iv u3 0 2 → iv v56_6 0 74 → iv v56_7 0 74 → iv v56_8 0 75 → iv g56_u0_14 0 60 → NGs τ f_56 u0 → atp f_56 u0 (fd 14 (.int g56_u0_14)) → W p l e rm_s_X11_peak s m args below meth c H locs 0 0 Q (F0 m 56 ls []) := by
    intro n56
    induction n56 with
    | zero => intro ls f_56 H locs v56_4 v56_6 v56_7 v56_8 g56_u0_14 hm56 hl h t_56 o_56 jv56_3 iv56_6 iv56_7 iv56_8 ig56_u0_14 k56_u0_NG k56_u0_14; exact absurd hm56 (by omega)
    | succ n56 ih56 =>
      intro ls f_56 H locs v56_4 v56_6 v56_7 v56_8 g56_u0_14 hm56 hl h t_56 o_56 jv56_3 iv56_6 iv56_7 iv56_8 ig56_u0_14 k56_u0_NG k56_u0_14
      have L66 : ∀ (n66 : Nat) (ls : Array Slot) (f_66 : hM) (H : Heap) (locs : List Loc) (v66_4 : Int64) (v66_6 : Int32) (v66_7 : Int32) (v66_9 : Int32), 75 - v66_9.toInt < (n66 : Int) → lv_has ls 10 [(0, .ref u0), (3, .int u3), (4, .long v66_4), (6, .int v66_6), (7, .int v66_7), (8, .int v56_8), (9, .int v66_9)] → hw D b0 s.heap f_66 H locs → TI G 9 τ f_66 → Fr [60, 67, 60001, 60013, 60014, 60015] τ f f_66 → iv v66_6 0 74 → iv v66_7 0 74 → iv v56_8 0 74 → iv v66_9 0 75 → NGs τ f_66 u0 → atp f_66 u0 (fd 14 (.int g56_u0_14)) → W p l e rm_s_X11_peak s m args below meth c H locs 0 0 Q (F0 m 66 ls []) := by
        intro n66
        induction n66 with
        | zero => intro ls f_66 H locs v66_4 v66_6 v66_7 v66_9 hm66 hl h t_66 o_66 iv66_6 iv66_7 jv66_8 iv66_9 k66_u0_NG k66_u0_14; exact absurd hm66 (by omega)
        | succ n66 ih66 =>
          intro ls f_66 H locs v66_4 v66_6 v66_7 v66_9 hm66 hl h t_66 o_66 iv66_6 iv66_7 jv66_8 iv66_9 k66_u0_NG k66_u0_14
          refine lv_iload hx hb dX11_peak_66 (lv_at hl 6 rfl) ?_
          refine lv_bipush (v := 75) hx hb dX11_peak_68 (by decide) ?_
          refine lv_icmp_ge (tgt := 122) hx hb dX11_peak_70 (by decide) (fun c1 => ?_) (fun c1 => ?_)
          · have c2 : 75 ≤ v66_9.toInt := Int32.le_iff_toInt_le.mp c1
            have i3 : iv v66_9 75 75 := iv_Er c2 (iv_k (x := 75) (k := 75) rfl) iv66_9 (by decide)
            refine i_inc hx hb dX11_peak_122 hl (k := 5) rfl jv66_8 rfl (lo := 1) (hi := 75) (by decide) (by decide) (lv' := fun v => [(8, .int v), (0, .ref u0), (3, .int u3), (4, .long v66_4), (6, .int v66_6), (7, .int v66_7), (9, .int v66_9)]) (fun _ => rfl) (fun z6 ls ez6 mz6 iz6 hl => ?_)
            refine lv_goto (tgt := 56) hx hb dX11_peak_125 (by decide) ?_
            exact ih56 ls f_66 H locs v66_4 v66_6 v66_7 z6 g56_u0_14 (show 75 - z6.toInt < _ by omega) (lv_cons hl 1 rfl (lv_cons hl 2 rfl (lv_cons hl 3 rfl (lv_cons hl 4 rfl (lv_cons hl 5 rfl (lv_cons hl 0 rfl (lv_nil hl))))))) h t_66 o_66 jv56_3 iv66_6 iv66_7 (iv_w iz6 (by decide)) ig56_u0_14 k66_u0_NG k66_u0_14
          · have c4 : v66_9.toInt < 75 := Int32.lt_iff_toInt_lt.mp (iv_nle c1)
            have i5 : iv v66_9 0 74 := iv_Ll c4 iv66_9 (iv_k (x := 75) (k := 75) rfl) (by decide)
            refine lv_aload_n hx hb dX11_peak_73 rfl (lv_at hl 0 rfl) ?_
            refine t_getr (tq := 67) C h t_66 hu0 (by decide) wf_60 rfl fl_X11_29 dX11_peak_74 (fun q7 tq7 => ?_)
            refine lv_iload hx hb dX11_peak_77 (lv_at hl 5 rfl) ?_
            refine lv_iload hx hb dX11_peak_79 (lv_at hl 6 rfl) ?_
            refine k_i (r_S C h hl (As := [.int v56_8, .int v66_9]) (rest := [.ref q7]) (s_X11_cell l D G b0 τ f_66 t_66 v56_8 (iv_w jv66_8 (by decide)) v66_9 (iv_w i5 (by decide))) mk_X11_cell w_1706 w_1707 w_1708 ⟨Nat.le_of_ble_eq_true rfl, Nat.le_of_ble_eq_true rfl⟩ rfl (Nat.le_of_ble_eq_true rfl) ⟨Nat.le_of_ble_eq_true rfl, Nat.le_of_ble_eq_true rfl⟩ rfl dX11_peak_81) h (fun r8 f9 H locs p10 h => ?_)
            obtain ⟨ir8, tf9, ogf9, x0r8⟩ := p10
            have egf9 := Fr.nil2 ogf9
            subst egf9
            refine t_lald C h t_66 tq7 (by decide) wf_67 (iv_in ir8 (by decide)) dX11_peak_84 (fun w11 => ?_)
            refine lv_lload hx hb dX11_peak_85 (lv_at hl 2 rfl) ?_
            refine W.lcmp hx hb dX11_peak_87 (i_topc (fun z12 ez12 mz12 iz12 => ?_))
            refine lv_if_gt (tgt := 94) hx hb dX11_peak_88 (by decide) (fun c13 => ?_) (fun c13 => ?_)
            · have c14 : 0 < z12.toInt := Int32.lt_iff_toInt_lt.mp c13
              have i15 : iv z12 1 1 := iv_Lr c14 (iv_k (x := 0) (k := 0) rfl) iz12 (by decide)
              refine lv_aload_n hx hb dX11_peak_94 rfl (lv_at hl 0 rfl) ?_
              refine t_getr (tq := 67) C h t_66 hu0 (by decide) wf_60 rfl fl_X11_29 dX11_peak_95 (fun q18 tq18 => ?_)
              refine lv_iload hx hb dX11_peak_98 (lv_at hl 5 rfl) ?_
              refine lv_iload hx hb dX11_peak_100 (lv_at hl 6 rfl) ?_
              refine k_i (r_S C h hl (As := [.int v56_8, .int v66_9]) (rest := [.ref q18]) (s_X11_cell l D G b0 τ f_66 t_66 v56_8 (iv_w jv66_8 (by decide)) v66_9 (iv_w i5 (by decide))) mk_X11_cell w_1706 w_1707 w_1708 ⟨Nat.le_of_ble_eq_true rfl, Nat.le_of_ble_eq_true rfl⟩ rfl (Nat.le_of_ble_eq_true rfl) ⟨Nat.le_of_ble_eq_true rfl, Nat.le_of_ble_eq_true rfl⟩ rfl dX11_peak_102) h (fun r19 f20 H locs p21 h => ?_)
              obtain ⟨ir19, tf20, ogf20, x0r19⟩ := p21
              have egf20 := Fr.nil2 ogf20
              subst egf20
              refine t_lald C h t_66 tq18 (by decide) wf_67 (iv_in ir19 (by decide)) dX11_peak_105 (fun w22 => ?_)
              refine lv_lstore (lv' := [(4, .long w22), (0, .ref u0), (3, .int u3), (6, .int v66_6), (7, .int v66_7), (8, .int v56_8), (9, .int v66_9)]) hx hb dX11_peak_106 hl (by decide) rfl (fun ls hl => ?_)
              refine lv_iload hx hb dX11_peak_108 (lv_at hl 5 rfl) ?_
              refine lv_istore (lv' := [(6, .int v56_8), (4, .long w22), (0, .ref u0), (3, .int u3), (7, .int v66_7), (8, .int v56_8), (9, .int v66_9)]) hx hb dX11_peak_110 hl (by decide) rfl (fun ls hl => ?_)
              refine lv_iload hx hb dX11_peak_112 (lv_at hl 6 rfl) ?_
              refine lv_istore (lv' := [(7, .int v66_9), (6, .int v56_8), (4, .long w22), (0, .ref u0), (3, .int u3), (8, .int v56_8), (9, .int v66_9)]) hx hb dX11_peak_114 hl (by decide) rfl (fun ls hl => ?_)
              refine i_inc hx hb dX11_peak_116 hl (k := 6) rfl i5 rfl (lo := 1) (hi := 75) (by decide) (by decide) (lv' := fun v => [(9, .int v), (7, .int v66_9), (6, .int v56_8), (4, .long w22), (0, .ref u0), (3, .int u3), (8, .int v56_8)]) (fun _ => rfl) (fun z23 ls ez23 mz23 iz23 hl => ?_)
              refine lv_goto (tgt := 66) hx hb dX11_peak_119 (by decide) ?_
              exact ih66 ls f_66 H locs w22 v56_8 v66_9 z23 (show 75 - z23.toInt < _ by omega) (lv_cons hl 4 rfl (lv_cons hl 5 rfl (lv_cons hl 3 rfl (lv_cons hl 2 rfl (lv_cons hl 1 rfl (lv_cons hl 6 rfl (lv_cons hl 0 rfl (lv_nil hl)))))))) h t_66 o_66 jv66_8 i5 jv66_8 (iv_w iz23 (by decide)) k66_u0_NG k66_u0_14
            · have c16 : z12.toInt ≤ 0 := Int32.le_iff_toInt_le.mp (iv_nlt c13)
              have i17 : iv z12 (-1) 0 := iv_El c16 iz12 (iv_k (x := 0) (k := 0) rfl) (by decide)
              refine lv_goto (tgt := 116) hx hb dX11_peak_91 (by decide) ?_
              refine i_inc hx hb dX11_peak_116 hl (k := 6) rfl i5 rfl (lo := 1) (hi := 75) (by decide) (by decide) (lv' := fun v => [(9, .int v), (0, .ref u0), (3, .int u3), (4, .long v66_4), (6, .int v66_6), (7, .int v66_7), (8, .int v56_8)]) (fun _ => rfl) (fun z24 ls ez24 mz24 iz24 hl => ?_)
              refine lv_goto (tgt := 66) hx hb dX11_peak_119 (by decide) ?_
              exact ih66 ls f_66 H locs v66_4 v66_6 v66_7 z24 (show 75 - z24.toInt < _ by omega) (lv_cons hl 1 rfl (lv_cons hl 2 rfl (lv_cons hl 3 rfl (lv_cons hl 4 rfl (lv_cons hl 5 rfl (lv_cons hl 6 rfl (lv_cons hl 0 rfl (lv_nil hl)))))))) h t_66 o_66 iv66_6 iv66_7 jv66_8 (iv_w iz24 (by decide)) k66_u0_NG k66_u0_14
      refine lv_iload hx hb dX11_peak_56 (lv_at hl 5 rfl) ?_
      refine lv_bipush (v := 75) hx hb dX11_peak_58 (by decide) ?_
      refine lv_icmp_ge (tgt := 128) hx hb dX11_peak_60 (by decide) (fun c25 => ?_) (fun c25 => ?_)
      · have c26 : 75 ≤ v56_8.toInt := Int32.le_iff_toInt_le.mp c25
        have i27 : iv v56_8 75 75 := iv_Er c26 (iv_k (x := 75) (k := 75) rfl) iv56_8 (by decide)
        refine lv_lload hx hb dX11_peak_128 (lv_at hl 2 rfl) ?_
        refine lv_lconst (v := 0) hx hb dX11_peak_130 (by decide) ?_
        refine W.lcmp hx hb dX11_peak_131 (i_topc (fun z30 ez30 mz30 iz30 => ?_))
        refine lv_if_ne (tgt := 141) hx hb dX11_peak_132 (by decide) (fun c31 => ?_) (fun c31 => ?_)
        · have c32 : z30.toInt ≠ 0 := fun z_ => c31 (Int32.toInt_inj.mp z_)
          refine lv_iload_n hx hb dX11_peak_141 rfl (lv_at hl 1 rfl) ?_
          refine lv_if_ne (tgt := 150) hx hb dX11_peak_142 (by decide) (fun c35 => ?_) (fun c35 => ?_)
          · have c36 : u3.toInt ≠ 0 := fun z_ => c35 (Int32.toInt_inj.mp z_)
            have i37 : iv u3 1 2 := iv_Nl c36 jv56_3 (by decide)
            refine lv_iload_n hx hb dX11_peak_150 rfl (lv_at hl 1 rfl) ?_
            refine lv_iconst (v := 1) hx hb dX11_peak_151 (by decide) ?_
            refine lv_icmp_ne (tgt := 160) hx hb dX11_peak_152 (by decide) (fun c40 => ?_) (fun c40 => ?_)
            · have c41 : u3.toInt ≠ 1 := fun z_ => c40 (Int32.toInt_inj.mp z_)
              have i42 : iv u3 2 2 := iv_Nl c41 i37 (by decide)
              refine lv_lload hx hb dX11_peak_160 (lv_at hl 2 rfl) ?_
              refine lv_l2i hx hb dX11_peak_162 rfl (i_top (iv_any _) (fun z45 ez45 iz45 => ?_))
              exact u_iret C h hr hQ (⟨iz45, t_56, o_56, k56_u0_NG⟩) (Nat.le_of_ble_eq_true rfl) (Nat.le_of_ble_eq_true rfl) dX11_peak_163
            · have c43 : u3.toInt = 1 := congrArg Int32.toInt c40
              have i44 : iv u3 1 1 := iv_Q c43 i37 (iv_k (x := 1) (k := 1) rfl) (by decide)
              refine lv_iload hx hb dX11_peak_155 (lv_at hl 4 rfl) ?_
              refine lv_goto (tgt := 163) hx hb dX11_peak_157 (by decide) ?_
              exact u_iret C h hr hQ (⟨(iv_w iv56_7 (by decide)), t_56, o_56, k56_u0_NG⟩) (Nat.le_of_ble_eq_true rfl) (Nat.le_of_ble_eq_true rfl) dX11_peak_163
          · have c38 : u3.toInt = 0 := congrArg Int32.toInt c35
            have i39 : iv u3 0 0 := iv_Q c38 jv56_3 (iv_k (x := 0) (k := 0) rfl) (by decide)
            refine lv_iload hx hb dX11_peak_145 (lv_at hl 3 rfl) ?_
            refine lv_goto (tgt := 163) hx hb dX11_peak_147 (by decide) ?_
            exact u_iret C h hr hQ (⟨(iv_w iv56_6 (by decide)), t_56, o_56, k56_u0_NG⟩) (Nat.le_of_ble_eq_true rfl) (Nat.le_of_ble_eq_true rfl) dX11_peak_163
        · have c33 : z30.toInt = 0 := congrArg Int32.toInt c31
          have i34 : iv z30 0 0 := iv_Q c33 iz30 (iv_k (x := 0) (k := 0) rfl) (by decide)
          refine lv_ldcw (v := -1000000) hx hb hown (hts _ w_1787) dX11_peak_135 ?_
          refine lv_goto (tgt := 163) hx hb dX11_peak_138 (by decide) ?_
          exact u_iret C h hr hQ (⟨⟨by decide, by decide⟩, t_56, o_56, k56_u0_NG⟩) (Nat.le_of_ble_eq_true rfl) (Nat.le_of_ble_eq_true rfl) dX11_peak_163
      · have c28 : v56_8.toInt < 75 := Int32.lt_iff_toInt_lt.mp (iv_nle c25)
        have i29 : iv v56_8 0 74 := iv_Ll c28 iv56_8 (iv_k (x := 75) (k := 75) rfl) (by decide)
        refine lv_iconst (v := 0) hx hb dX11_peak_63 (by decide) ?_
        refine lv_istore (lv' := [(9, .int 0), (0, .ref u0), (3, .int u3), (4, .long v56_4), (6, .int v56_6), (7, .int v56_7), (8, .int v56_8)]) hx hb dX11_peak_64 hl (by decide) rfl (fun ls hl => ?_)
        exact L66 76 ls f_56 H locs v56_4 v56_6 v56_7 0 (by decide) (lv_cons hl 1 rfl (lv_cons hl 2 rfl (lv_cons hl 3 rfl (lv_cons hl 4 rfl (lv_cons hl 5 rfl (lv_cons hl 6 rfl (lv_cons hl 0 rfl (lv_nil hl)))))))) h t_56 o_56 iv56_6 iv56_7 i29 ⟨by decide, by decide⟩ k56_u0_NG k56_u0_14
  refine lv_aload_n hx hb dX11_peak_0 rfl (lv_at hl 0 rfl) ?_
  refine lv_iconst (v := 0) hx hb dX11_peak_1 (by decide) ?_
  refine t_put C h t o hu0 (by decide) (by decide) (by decide) wf_60 fw_60 (k := 0) rfl flw_X11_75 (Or.inr ⟨_, _, _, rfl, rfl⟩) (v := .int 0) rfl rfl ⟨_, rfl, ⟨by decide, by decide⟩⟩ dX11_peak_2 (fun f46 H locs h tf46 of46 hq ha_ hn_ hk_ => ?_)
  have k47 := NGs.pk hNG hk_ (by decide) (by decide)
  have k48 := ha_
  refine lv_aload_n hx hb dX11_peak_5 rfl (lv_at hl 0 rfl) ?_
  refine lv_iload_n hx hb dX11_peak_6 rfl (lv_at hl 1 rfl) ?_
  obtain ⟨_, r49⟩ := t_rec tf46 hu0 (by decide) wf_60
  refine k_i (r_V C h hl (As := [.int u1]) (rest := []) (s_X11_isSet l D G b0 τ f46 tf46 u0 hu0 u1 hu1) r49 (Cn := RX11) (T := TX11) (N := 32) rfl rfl mk_X11_isSet w_1620 w_1622 w_51 w_1623 ⟨Nat.le_of_ble_eq_true rfl, Nat.le_of_ble_eq_true rfl⟩ rfl (Nat.le_of_ble_eq_true rfl) ⟨Nat.le_of_ble_eq_true rfl, Nat.le_of_ble_eq_true rfl⟩ rfl dX11_peak_7) h (fun r50 f51 H locs p52 h => ?_)
  obtain ⟨ir50, tf51, ogf51, cnr50⟩ := p52
  have egf51 := Fr.nil2 ogf51
  subst egf51
  refine lv_if_eq (tgt := 32) hx hb dX11_peak_10 (by decide) (fun c53 => ?_) (fun c53 => ?_)
  · have c54 : r50.toInt = 0 := congrArg Int32.toInt c53
    have i55 : iv r50 0 0 := iv_Q c54 ir50 (iv_k (x := 0) (k := 0) rfl) (by decide)
    refine lv_ldcw (v := -1000000) hx hb hown (hts _ w_1787) dX11_peak_32 ?_
    exact u_iret C h hr hQ (⟨⟨by decide, by decide⟩, tf46, of46, k47⟩) (Nat.le_of_ble_eq_true rfl) (Nat.le_of_ble_eq_true rfl) dX11_peak_35
  · have c56 : r50.toInt ≠ 0 := fun z_ => c53 (Int32.toInt_inj.mp z_)
    have i57 : iv r50 1 1 := iv_Nl c56 ir50 (by decide)
    have i58 := cnr50 c56
    refine lv_iload_n hx hb dX11_peak_13 rfl (lv_at hl 2 rfl) ?_
    refine k_i (r_S C h hl (As := [.int u2]) (rest := []) (s_X11_isFew l D G b0 τ f46 tf46 u2 hu2) mk_X11_isFew w_1820 w_1821 w_1822 ⟨Nat.le_of_ble_eq_true rfl, Nat.le_of_ble_eq_true rfl⟩ rfl (Nat.le_of_ble_eq_true rfl) ⟨Nat.le_of_ble_eq_true rfl, Nat.le_of_ble_eq_true rfl⟩ rfl dX11_peak_14) h (fun r59 f60 H locs p61 h => ?_)
    obtain ⟨ir59, tf60, ogf60, cnr59⟩ := p61
    have egf60 := Fr.nil2 ogf60
    subst egf60
    refine lv_if_eq (tgt := 32) hx hb dX11_peak_17 (by decide) (fun c62 => ?_) (fun c62 => ?_)
    · have c63 : r59.toInt = 0 := congrArg Int32.toInt c62
      have i64 : iv r59 0 0 := iv_Q c63 ir59 (iv_k (x := 0) (k := 0) rfl) (by decide)
      refine lv_ldcw (v := -1000000) hx hb hown (hts _ w_1787) dX11_peak_32 ?_
      exact u_iret C h hr hQ (⟨⟨by decide, by decide⟩, tf46, of46, k47⟩) (Nat.le_of_ble_eq_true rfl) (Nat.le_of_ble_eq_true rfl) dX11_peak_35
    · have c65 : r59.toInt ≠ 0 := fun z_ => c62 (Int32.toInt_inj.mp z_)
      have i66 : iv r59 1 1 := iv_Nl c65 ir59 (by decide)
      have i67 := cnr59 c65
      refine lv_iload_n hx hb dX11_peak_20 rfl (lv_at hl 3 rfl) ?_
      refine lv_i2l hx hb dX11_peak_21 rfl (i_topL hu3 (fun w68 ew68 mw68 iw68 => ?_))
      refine lv_lconst (v := 0) hx hb dX11_peak_22 (by decide) ?_
      refine lv_ldc2 (v := 2) hx hb hown (hts _ w_1647) dX11_peak_23 ?_
      refine k_i (r_S C h hl (As := [.long w68, .long 0, .long 2]) (rest := []) (s_X11_isIn l D G b0 τ f46 tf46 w68 0 2) mk_X11_isIn w_1624 w_1625 w_1626 ⟨Nat.le_of_ble_eq_true rfl, Nat.le_of_ble_eq_true rfl⟩ rfl (Nat.le_of_ble_eq_true rfl) ⟨Nat.le_of_ble_eq_true rfl, Nat.le_of_ble_eq_true rfl⟩ rfl dX11_peak_26) h (fun r69 f70 H locs p71 h => ?_)
      have n72 : (0 : Int64).toInt = 0 := rfl
      have n73 : (2 : Int64).toInt = 2 := rfl
      obtain ⟨ir69, tf70, ogf70, cnr69⟩ := p71
      have egf70 := Fr.nil2 ogf70
      subst egf70
      refine lv_if_ne (tgt := 36) hx hb dX11_peak_29 (by decide) (fun c74 => ?_) (fun c74 => ?_)
      · have c75 : r69.toInt ≠ 0 := fun z_ => c74 (Int32.toInt_inj.mp z_)
        have i76 : iv r69 1 1 := iv_Nl c75 ir69 (by decide)
        obtain ⟨i77, i78⟩ := cnr69 c75
        have i79 : iv u3 0 2 := ⟨by omega, by omega⟩
        refine lv_aload_n hx hb dX11_peak_36 rfl (lv_at hl 0 rfl) ?_
        refine lv_iload_n hx hb dX11_peak_37 rfl (lv_at hl 1 rfl) ?_
        refine lv_iconst (v := 0) hx hb dX11_peak_38 (by decide) ?_
        refine lv_iconst (v := 3) hx hb dX11_peak_39 (by decide) ?_
        refine lv_iload_n hx hb dX11_peak_40 rfl (lv_at hl 2 rfl) ?_
        obtain ⟨_, r82⟩ := t_rec tf46 hu0 (by decide) wf_60
        refine k_v (r_V C h hl (As := [.int u1, .int 0, .int 3, .int u2]) (rest := []) (s_X11_goesOn l D G b0 τ f46 tf46 u0 hu0 u1 i58 0 (iv_w (iv_k (x := 0) (k := 0) rfl) (by decide)) 3 (iv_w (iv_k (x := 3) (k := 3) rfl) (by decide)) u2 (iv_w i67 (by decide)) k47) r82 (Cn := RX11) (T := TX11) (N := 32) rfl rfl mk_X11_goesOn w_1698 w_1700 w_57 w_1701 ⟨Nat.le_of_ble_eq_true rfl, Nat.le_of_ble_eq_true rfl⟩ rfl (Nat.le_of_ble_eq_true rfl) ⟨Nat.le_of_ble_eq_true rfl, Nat.le_of_ble_eq_true rfl⟩ rfl dX11_peak_41) h (fun f84 H locs p85 h => ?_)
        have n86 : (0 : Int32).toInt = 0 := rfl
        have n87 : (3 : Int32).toInt = 3 := rfl
        obtain ⟨tf84, ogf84, ⟨gg_f84, kpu0_14f84, ipu0_14f84, rpu0_14f84⟩, ngf84⟩ := p85
        have of84 : Fr [60, 67, 60001, 60013, 60014, 60015] τ f f84 := Fr.tr of46 ogf84 (by decide) (by decide)
        refine lv_lconst (v := 0) hx hb dX11_peak_44 (by decide) ?_
        refine lv_lstore (lv' := [(4, .long 0), (0, .ref u0), (1, .int u1), (2, .int u2), (3, .int u3)]) hx hb dX11_peak_45 hl (by decide) rfl (fun ls hl => ?_)
        refine lv_iconst (v := 0) hx hb dX11_peak_47 (by decide) ?_
        refine lv_istore (lv' := [(6, .int 0), (4, .long 0), (0, .ref u0), (1, .int u1), (2, .int u2), (3, .int u3)]) hx hb dX11_peak_48 hl (by decide) rfl (fun ls hl => ?_)
        refine lv_iconst (v := 0) hx hb dX11_peak_50 (by decide) ?_
        refine lv_istore (lv' := [(7, .int 0), (6, .int 0), (4, .long 0), (0, .ref u0), (1, .int u1), (2, .int u2), (3, .int u3)]) hx hb dX11_peak_51 hl (by decide) rfl (fun ls hl => ?_)
        refine lv_iconst (v := 0) hx hb dX11_peak_53 (by decide) ?_
        refine lv_istore (lv' := [(8, .int 0), (7, .int 0), (6, .int 0), (4, .long 0), (0, .ref u0), (1, .int u1), (2, .int u2), (3, .int u3)]) hx hb dX11_peak_54 hl (by decide) rfl (fun ls hl => ?_)
        exact L56 76 ls f84 H locs 0 0 0 0 gg_f84 (by decide) (lv_cons hl 4 rfl (lv_cons hl 7 rfl (lv_cons hl 3 rfl (lv_cons hl 2 rfl (lv_cons hl 1 rfl (lv_cons hl 0 rfl (lv_nil hl))))))) h tf84 of84 i79 ⟨by decide, by decide⟩ ⟨by decide, by decide⟩ ⟨by decide, by decide⟩ ipu0_14f84 ngf84 kpu0_14f84
      · have c80 : r69.toInt = 0 := congrArg Int32.toInt c74
        have i81 : iv r69 0 0 := iv_Q c80 ir69 (iv_k (x := 0) (k := 0) rfl) (by decide)
        refine lv_ldcw (v := -1000000) hx hb hown (hts _ w_1787) dX11_peak_32 ?_
        exact u_iret C h hr hQ (⟨⟨by decide, by decide⟩, tf46, of46, k47⟩) (Nat.le_of_ble_eq_true rfl) (Nat.le_of_ble_eq_true rfl) dX11_peak_35
abbrev rm_s_X11_points : Room := { frames := 3, cells := 0, slots := 0, locals := 83 }
set_option maxRecDepth 100000 in
set_option maxHeartbeats 4000000 in
theorem s_X11_points (l : Launch) (D : va_G) (G : Nat → Nat) (b0 : Nat) (τ : Nat → Nat) (f : hM) (t : TI G 9 τ f) (u0 : Nat) (hu0 : τ u0 = 60) (u1 : Int32) (hu1 : iv u1 (-2147483648) 2147483647) (u2 : Int32) (hu2 : iv u2 (-2147483648) 2147483647) (hNG : NGs τ f u0) : mI l yX11_points cX11_points 5 (.int) rm_s_X11_points D G b0 f [.ref u0, .int u1, .int u2] (fun r f1 => iv r (-2147483648) 2147483647 ∧ TI G 9 τ f1 ∧ Fr [60, 67, 60001, 60013, 60014, 60015] τ f f1 ∧ NGs τ f1 u0) := by
  refine met2 (own := RX11) (by decide) rfl (Nat.le_of_ble_eq_true rfl) ?_
  intro p e s m args below meth c ls Q hQ C hr hini hl h
  have hl : lv_has ls 5 [(0, .ref u0), (1, .int u1), (2, .int u2)] := hl
  obtain ⟨hx, hb, hml, hown, hts, hE0, hlk⟩ := id C
  have o := Fr.rf [60, 67, 60001, 60013, 60014, 60015] τ f
  have L35 : ∀ (n35 : Nat) (ls : Array Slot) (f_35 : hM) (H : Heap) (locs : List Loc) (v35_3 : Int32) (v35_4 : Int32) (g35_u0_14 : Int32), 19600 - v35_4.toInt < (n35 : Int) → lv_has ls 5 [(0, .ref u0), (3, .int v35_3), (4, .int v35_4)] → hw D b0 s.heap f_35 H locs → TI G 9 τ f_35 → Fr [60, 67, 60001, 60013, 60014, 60015] τ f f_35 → iv v35_3 (-2147483648) 2147483647 → iv v35_4 0 19600 → iv g35_u0_14 0 60 → NGs τ f_35 u0 → atp f_35 u0 (fd 14 (.int g35_u0_14)) → W p l e rm_s_X11_points s m args below meth c H locs 0 0 Q (F0 m 35 ls []) := by
    intro n35
    induction n35 with
    | zero => intro ls f_35 H locs v35_3 v35_4 g35_u0_14 hm35 hl h t_35 o_35 iv35_3 iv35_4 ig35_u0_14 k35_u0_NG k35_u0_14; exact absurd hm35 (by omega)
    | succ n35 ih35 =>
      intro ls f_35 H locs v35_3 v35_4 g35_u0_14 hm35 hl h t_35 o_35 iv35_3 iv35_4 ig35_u0_14 k35_u0_NG k35_u0_14
      refine lv_iload hx hb dX11_points_35 (lv_at hl 2 rfl) ?_
      refine lv_sipush (v := 19600) hx hb dX11_points_37 (by decide) ?_
      refine lv_icmp_ge (tgt := 60) hx hb dX11_points_40 (by decide) (fun c1 => ?_) (fun c1 => ?_)
      · have c2 : 19600 ≤ v35_4.toInt := Int32.le_iff_toInt_le.mp c1
        have i3 : iv v35_4 19600 19600 := iv_Er c2 (iv_k (x := 19600) (k := 19600) rfl) iv35_4 (by decide)
        refine lv_iload_n hx hb dX11_points_60 rfl (lv_at hl 1 rfl) ?_
        exact u_iret C h hr hQ (⟨iv35_3, t_35, o_35, k35_u0_NG⟩) (Nat.le_of_ble_eq_true rfl) (Nat.le_of_ble_eq_true rfl) dX11_points_61
      · have c4 : v35_4.toInt < 19600 := Int32.lt_iff_toInt_lt.mp (iv_nle c1)
        have i5 : iv v35_4 0 19599 := iv_Ll c4 iv35_4 (iv_k (x := 19600) (k := 19600) rfl) (by decide)
        refine lv_iload_n hx hb dX11_points_43 rfl (lv_at hl 1 rfl) ?_
        refine lv_aload_n hx hb dX11_points_44 rfl (lv_at hl 0 rfl) ?_
        refine t_getr (tq := 67) C h t_35 hu0 (by decide) wf_60 rfl fl_X11_29 dX11_points_45 (fun q6 tq6 => ?_)
        refine lv_iload hx hb dX11_points_48 (lv_at hl 2 rfl) ?_
        refine t_lald C h t_35 tq6 (by decide) wf_67 (iv_in i5 (by decide)) dX11_points_50 (fun w7 => ?_)
        refine lv_l2i hx hb dX11_points_51 rfl (i_top (iv_any _) (fun z8 ez8 iz8 => ?_))
        refine lv_iadd hx hb dX11_points_52 (i_top (iv_any _) (fun z9 ez9 iz9 => ?_))
        refine lv_istore_n (lv' := [(3, .int z9), (0, .ref u0), (4, .int v35_4)]) hx hb dX11_points_53 rfl hl (by decide) rfl (fun ls hl => ?_)
        refine i_inc hx hb dX11_points_54 hl (k := 2) rfl i5 rfl (lo := 1) (hi := 19600) (by decide) (by decide) (lv' := fun v => [(4, .int v), (3, .int z9), (0, .ref u0)]) (fun _ => rfl) (fun z10 ls ez10 mz10 iz10 hl => ?_)
        refine lv_goto (tgt := 35) hx hb dX11_points_57 (by decide) ?_
        exact ih35 ls f_35 H locs z9 z10 g35_u0_14 (show 19600 - z10.toInt < _ by omega) (lv_cons hl 2 rfl (lv_cons hl 1 rfl (lv_cons hl 0 rfl (lv_nil hl)))) h t_35 o_35 iz9 (iv_w iz10 (by decide)) ig35_u0_14 k35_u0_NG k35_u0_14
  refine lv_aload_n hx hb dX11_points_0 rfl (lv_at hl 0 rfl) ?_
  refine lv_iconst (v := 0) hx hb dX11_points_1 (by decide) ?_
  refine t_put C h t o hu0 (by decide) (by decide) (by decide) wf_60 fw_60 (k := 0) rfl flw_X11_75 (Or.inr ⟨_, _, _, rfl, rfl⟩) (v := .int 0) rfl rfl ⟨_, rfl, ⟨by decide, by decide⟩⟩ dX11_points_2 (fun f11 H locs h tf11 of11 hq ha_ hn_ hk_ => ?_)
  have k12 := NGs.pk hNG hk_ (by decide) (by decide)
  have k13 := ha_
  refine lv_aload_n hx hb dX11_points_5 rfl (lv_at hl 0 rfl) ?_
  refine lv_iload_n hx hb dX11_points_6 rfl (lv_at hl 1 rfl) ?_
  obtain ⟨_, r14⟩ := t_rec tf11 hu0 (by decide) wf_60
  refine k_i (r_V C h hl (As := [.int u1]) (rest := []) (s_X11_isSet l D G b0 τ f11 tf11 u0 hu0 u1 hu1) r14 (Cn := RX11) (T := TX11) (N := 32) rfl rfl mk_X11_isSet w_1620 w_1622 w_51 w_1623 ⟨Nat.le_of_ble_eq_true rfl, Nat.le_of_ble_eq_true rfl⟩ rfl (Nat.le_of_ble_eq_true rfl) ⟨Nat.le_of_ble_eq_true rfl, Nat.le_of_ble_eq_true rfl⟩ rfl dX11_points_7) h (fun r15 f16 H locs p17 h => ?_)
  obtain ⟨ir15, tf16, ogf16, cnr15⟩ := p17
  have egf16 := Fr.nil2 ogf16
  subst egf16
  refine lv_if_eq (tgt := 20) hx hb dX11_points_10 (by decide) (fun c18 => ?_) (fun c18 => ?_)
  · have c19 : r15.toInt = 0 := congrArg Int32.toInt c18
    have i20 : iv r15 0 0 := iv_Q c19 ir15 (iv_k (x := 0) (k := 0) rfl) (by decide)
    refine lv_iconst (v := -1) hx hb dX11_points_20 (by decide) ?_
    exact u_iret C h hr hQ (⟨⟨by decide, by decide⟩, tf11, of11, k12⟩) (Nat.le_of_ble_eq_true rfl) (Nat.le_of_ble_eq_true rfl) dX11_points_21
  · have c21 : r15.toInt ≠ 0 := fun z_ => c18 (Int32.toInt_inj.mp z_)
    have i22 : iv r15 1 1 := iv_Nl c21 ir15 (by decide)
    have i23 := cnr15 c21
    refine lv_iload_n hx hb dX11_points_13 rfl (lv_at hl 2 rfl) ?_
    refine k_i (r_S C h hl (As := [.int u2]) (rest := []) (s_X11_isLong l D G b0 τ f11 tf11 u2 hu2) mk_X11_isLong w_1689 w_1690 w_1691 ⟨Nat.le_of_ble_eq_true rfl, Nat.le_of_ble_eq_true rfl⟩ rfl (Nat.le_of_ble_eq_true rfl) ⟨Nat.le_of_ble_eq_true rfl, Nat.le_of_ble_eq_true rfl⟩ rfl dX11_points_14) h (fun r24 f25 H locs p26 h => ?_)
    obtain ⟨ir24, tf25, ogf25, cnr24⟩ := p26
    have egf25 := Fr.nil2 ogf25
    subst egf25
    refine lv_if_ne (tgt := 22) hx hb dX11_points_17 (by decide) (fun c27 => ?_) (fun c27 => ?_)
    · have c28 : r24.toInt ≠ 0 := fun z_ => c27 (Int32.toInt_inj.mp z_)
      have i29 : iv r24 1 1 := iv_Nl c28 ir24 (by decide)
      have i30 := cnr24 c28
      refine lv_aload_n hx hb dX11_points_22 rfl (lv_at hl 0 rfl) ?_
      refine lv_iload_n hx hb dX11_points_23 rfl (lv_at hl 1 rfl) ?_
      refine lv_iconst (v := 0) hx hb dX11_points_24 (by decide) ?_
      refine lv_iconst (v := 4) hx hb dX11_points_25 (by decide) ?_
      refine lv_iload_n hx hb dX11_points_26 rfl (lv_at hl 2 rfl) ?_
      obtain ⟨_, r33⟩ := t_rec tf11 hu0 (by decide) wf_60
      refine k_v (r_V C h hl (As := [.int u1, .int 0, .int 4, .int u2]) (rest := []) (s_X11_goesOn l D G b0 τ f11 tf11 u0 hu0 u1 i23 0 (iv_w (iv_k (x := 0) (k := 0) rfl) (by decide)) 4 (iv_w (iv_k (x := 4) (k := 4) rfl) (by decide)) u2 i30 k12) r33 (Cn := RX11) (T := TX11) (N := 32) rfl rfl mk_X11_goesOn w_1698 w_1700 w_57 w_1701 ⟨Nat.le_of_ble_eq_true rfl, Nat.le_of_ble_eq_true rfl⟩ rfl (Nat.le_of_ble_eq_true rfl) ⟨Nat.le_of_ble_eq_true rfl, Nat.le_of_ble_eq_true rfl⟩ rfl dX11_points_27) h (fun f35 H locs p36 h => ?_)
      have n37 : (0 : Int32).toInt = 0 := rfl
      have n38 : (4 : Int32).toInt = 4 := rfl
      obtain ⟨tf35, ogf35, ⟨gg_f35, kpu0_14f35, ipu0_14f35, rpu0_14f35⟩, ngf35⟩ := p36
      have of35 : Fr [60, 67, 60001, 60013, 60014, 60015] τ f f35 := Fr.tr of11 ogf35 (by decide) (by decide)
      refine lv_iconst (v := 0) hx hb dX11_points_30 (by decide) ?_
      refine lv_istore_n (lv' := [(3, .int 0), (0, .ref u0), (1, .int u1), (2, .int u2)]) hx hb dX11_points_31 rfl hl (by decide) rfl (fun ls hl => ?_)
      refine lv_iconst (v := 0) hx hb dX11_points_32 (by decide) ?_
      refine lv_istore (lv' := [(4, .int 0), (3, .int 0), (0, .ref u0), (1, .int u1), (2, .int u2)]) hx hb dX11_points_33 hl (by decide) rfl (fun ls hl => ?_)
      exact L35 19601 ls f35 H locs 0 0 gg_f35 (by decide) (lv_cons hl 2 rfl (lv_cons hl 1 rfl (lv_cons hl 0 rfl (lv_nil hl)))) h tf35 of35 ⟨by decide, by decide⟩ ⟨by decide, by decide⟩ ipu0_14f35 ngf35 kpu0_14f35
    · have c31 : r24.toInt = 0 := congrArg Int32.toInt c27
      have i32 : iv r24 0 0 := iv_Q c31 ir24 (iv_k (x := 0) (k := 0) rfl) (by decide)
      refine lv_iconst (v := -1) hx hb dX11_points_20 (by decide) ?_
      exact u_iret C h hr hQ (⟨⟨by decide, by decide⟩, tf11, of11, k12⟩) (Nat.le_of_ble_eq_true rfl) (Nat.le_of_ble_eq_true rfl) dX11_points_21
abbrev rm_s_X11_fewest : Room := { frames := 2, cells := 0, slots := 0, locals := 58 }
set_option maxRecDepth 100000 in
set_option maxHeartbeats 4000000 in
theorem s_X11_fewest (l : Launch) (D : va_G) (G : Nat → Nat) (b0 : Nat) (τ : Nat → Nat) (f : hM) (t : TI G 9 τ f) (u0 : Nat) (hu0 : τ u0 = 60) (u1 : Int32) (hu1 : iv u1 (-2147483648) 2147483647) (u2 : Int32) (hu2 : iv u2 (-2147483648) 2147483647) (u3 : Int32) (hu3 : iv u3 (-2147483648) 2147483647) (hNG : NGs τ f u0) : mI l yX11_fewest cX11_fewest 4 (.int) rm_s_X11_fewest D G b0 f [.ref u0, .int u1, .int u2, .int u3] (fun r f1 => iv r (-1) 60 ∧ TI G 9 τ f1 ∧ Fr [60, 67, 60001, 60013, 60014, 60015] τ f f1 ∧ NGs τ f1 u0) := by
  refine met2 (own := RX11) (by decide) rfl (Nat.le_of_ble_eq_true rfl) ?_
  intro p e s m args below meth c ls Q hQ C hr hini hl h
  have hl : lv_has ls 4 [(0, .ref u0), (1, .int u1), (2, .int u2), (3, .int u3)] := hl
  obtain ⟨hx, hb, hml, hown, hts, hE0, hlk⟩ := id C
  have o := Fr.rf [60, 67, 60001, 60013, 60014, 60015] τ f
  have L28 : ∀ (n28 : Nat) (ls : Array Slot) (f_28 : hM) (H : Heap) (locs : List Loc) (g28_u0_14 : Int32), 60 - g28_u0_14.toInt < (n28 : Int) → lv_has ls 4 [(0, .ref u0), (1, .int u1), (2, .int u2), (3, .int u3)] → hw D b0 s.heap f_28 H locs → TI G 9 τ f_28 → Fr [60, 67, 60001, 60013, 60014, 60015] τ f f_28 → iv u1 0 7 → iv u2 (-70) 70 → iv u3 (-70) 70 → iv g28_u0_14 0 60 → NGs τ f_28 u0 → atp f_28 u0 (fd 14 (.int g28_u0_14)) → W p l e rm_s_X11_fewest s m args below meth c H locs 0 0 Q (F0 m 28 ls []) := by
    intro n28
    induction n28 with
    | zero => intro ls f_28 H locs g28_u0_14 hm28 hl h t_28 o_28 jv28_1 jv28_2 jv28_3 ig28_u0_14 k28_u0_NG k28_u0_14; exact absurd hm28 (by omega)
    | succ n28 ih28 =>
      intro ls f_28 H locs g28_u0_14 hm28 hl h t_28 o_28 jv28_1 jv28_2 jv28_3 ig28_u0_14 k28_u0_NG k28_u0_14
      refine lv_aload_n hx hb dX11_fewest_28 rfl (lv_at hl 0 rfl) ?_
      refine lv_iload_n hx hb dX11_fewest_29 rfl (lv_at hl 2 rfl) ?_
      refine lv_iload_n hx hb dX11_fewest_30 rfl (lv_at hl 3 rfl) ?_
      obtain ⟨_, r1⟩ := t_rec t_28 hu0 (by decide) wf_60
      refine k_l (r_V C h hl (As := [.int u2, .int u3]) (rest := []) (s_X11_gridAt l D G b0 τ f_28 t_28 u0 hu0 u2 (iv_w jv28_2 (by decide)) u3 (iv_w jv28_3 (by decide))) r1 (Cn := RX11) (T := TX11) (N := 32) rfl rfl mk_X11_gridAt w_1720 w_1722 w_60 w_1723 ⟨Nat.le_of_ble_eq_true rfl, Nat.le_of_ble_eq_true rfl⟩ rfl (Nat.le_of_ble_eq_true rfl) ⟨Nat.le_of_ble_eq_true rfl, Nat.le_of_ble_eq_true rfl⟩ rfl dX11_fewest_31) h (fun r2 f3 H locs p4 h => ?_)
      obtain ⟨tf3, ogf3⟩ := p4
      have egf3 := Fr.nil2 ogf3
      subst egf3
      refine lv_lconst (v := 0) hx hb dX11_fewest_34 (by decide) ?_
      refine W.lcmp hx hb dX11_fewest_35 (i_topc (fun z5 ez5 mz5 iz5 => ?_))
      refine lv_if_ne (tgt := 58) hx hb dX11_fewest_36 (by decide) (fun c6 => ?_) (fun c6 => ?_)
      · have c7 : z5.toInt ≠ 0 := fun z_ => c6 (Int32.toInt_inj.mp z_)
        refine lv_aload_n hx hb dX11_fewest_58 rfl (lv_at hl 0 rfl) ?_
        refine lv_iload_n hx hb dX11_fewest_59 rfl (lv_at hl 2 rfl) ?_
        refine lv_iload_n hx hb dX11_fewest_60 rfl (lv_at hl 3 rfl) ?_
        obtain ⟨_, r10⟩ := t_rec t_28 hu0 (by decide) wf_60
        refine k_l (r_V C h hl (As := [.int u2, .int u3]) (rest := []) (s_X11_gridAt l D G b0 τ f_28 t_28 u0 hu0 u2 (iv_w jv28_2 (by decide)) u3 (iv_w jv28_3 (by decide))) r10 (Cn := RX11) (T := TX11) (N := 32) rfl rfl mk_X11_gridAt w_1720 w_1722 w_60 w_1723 ⟨Nat.le_of_ble_eq_true rfl, Nat.le_of_ble_eq_true rfl⟩ rfl (Nat.le_of_ble_eq_true rfl) ⟨Nat.le_of_ble_eq_true rfl, Nat.le_of_ble_eq_true rfl⟩ rfl dX11_fewest_61) h (fun r11 f12 H locs p13 h => ?_)
        obtain ⟨tf12, ogf12⟩ := p13
        have egf12 := Fr.nil2 ogf12
        subst egf12
        refine lv_lconst (v := 0) hx hb dX11_fewest_64 (by decide) ?_
        refine W.lcmp hx hb dX11_fewest_65 (i_topc (fun z14 ez14 mz14 iz14 => ?_))
        refine lv_if_ne (tgt := 73) hx hb dX11_fewest_66 (by decide) (fun c15 => ?_) (fun c15 => ?_)
        · have c16 : z14.toInt ≠ 0 := fun z_ => c15 (Int32.toInt_inj.mp z_)
          refine lv_aload_n hx hb dX11_fewest_73 rfl (lv_at hl 0 rfl) ?_
          refine t_getfd C h t_28 hu0 (by decide) wf_60 (v := .int g28_u0_14) k28_u0_14 fl_X11_209 dX11_fewest_74 ?_
          exact u_iret C h hr hQ (⟨(iv_w ig28_u0_14 (by decide)), t_28, o_28, k28_u0_NG⟩) (Nat.le_of_ble_eq_true rfl) (Nat.le_of_ble_eq_true rfl) dX11_fewest_77
        · have c17 : z14.toInt = 0 := congrArg Int32.toInt c15
          have i18 : iv z14 0 0 := iv_Q c17 iz14 (iv_k (x := 0) (k := 0) rfl) (by decide)
          refine lv_iconst (v := -1) hx hb dX11_fewest_69 (by decide) ?_
          refine lv_goto (tgt := 77) hx hb dX11_fewest_70 (by decide) ?_
          exact u_iret C h hr hQ (⟨⟨by decide, by decide⟩, t_28, o_28, k28_u0_NG⟩) (Nat.le_of_ble_eq_true rfl) (Nat.le_of_ble_eq_true rfl) dX11_fewest_77
      · have c8 : z5.toInt = 0 := congrArg Int32.toInt c6
        have i9 : iv z5 0 0 := iv_Q c8 iz5 (iv_k (x := 0) (k := 0) rfl) (by decide)
        refine lv_aload_n hx hb dX11_fewest_39 rfl (lv_at hl 0 rfl) ?_
        refine t_getfd C h t_28 hu0 (by decide) wf_60 (v := .int g28_u0_14) k28_u0_14 fl_X11_209 dX11_fewest_40 ?_
        refine lv_bipush (v := 60) hx hb dX11_fewest_43 (by decide) ?_
        refine lv_icmp_ge (tgt := 58) hx hb dX11_fewest_45 (by decide) (fun c19 => ?_) (fun c19 => ?_)
        · have c20 : 60 ≤ g28_u0_14.toInt := Int32.le_iff_toInt_le.mp c19
          have i21 : iv g28_u0_14 60 60 := iv_Er c20 (iv_k (x := 60) (k := 60) rfl) ig28_u0_14 (by decide)
          refine lv_aload_n hx hb dX11_fewest_58 rfl (lv_at hl 0 rfl) ?_
          refine lv_iload_n hx hb dX11_fewest_59 rfl (lv_at hl 2 rfl) ?_
          refine lv_iload_n hx hb dX11_fewest_60 rfl (lv_at hl 3 rfl) ?_
          obtain ⟨_, r24⟩ := t_rec t_28 hu0 (by decide) wf_60
          refine k_l (r_V C h hl (As := [.int u2, .int u3]) (rest := []) (s_X11_gridAt l D G b0 τ f_28 t_28 u0 hu0 u2 (iv_w jv28_2 (by decide)) u3 (iv_w jv28_3 (by decide))) r24 (Cn := RX11) (T := TX11) (N := 32) rfl rfl mk_X11_gridAt w_1720 w_1722 w_60 w_1723 ⟨Nat.le_of_ble_eq_true rfl, Nat.le_of_ble_eq_true rfl⟩ rfl (Nat.le_of_ble_eq_true rfl) ⟨Nat.le_of_ble_eq_true rfl, Nat.le_of_ble_eq_true rfl⟩ rfl dX11_fewest_61) h (fun r25 f26 H locs p27 h => ?_)
          obtain ⟨tf26, ogf26⟩ := p27
          have egf26 := Fr.nil2 ogf26
          subst egf26
          refine lv_lconst (v := 0) hx hb dX11_fewest_64 (by decide) ?_
          refine W.lcmp hx hb dX11_fewest_65 (i_topc (fun z28 ez28 mz28 iz28 => ?_))
          refine lv_if_ne (tgt := 73) hx hb dX11_fewest_66 (by decide) (fun c29 => ?_) (fun c29 => ?_)
          · have c30 : z28.toInt ≠ 0 := fun z_ => c29 (Int32.toInt_inj.mp z_)
            refine lv_aload_n hx hb dX11_fewest_73 rfl (lv_at hl 0 rfl) ?_
            refine t_getfd C h t_28 hu0 (by decide) wf_60 (v := .int g28_u0_14) k28_u0_14 fl_X11_209 dX11_fewest_74 ?_
            exact u_iret C h hr hQ (⟨(iv_w i21 (by decide)), t_28, o_28, k28_u0_NG⟩) (Nat.le_of_ble_eq_true rfl) (Nat.le_of_ble_eq_true rfl) dX11_fewest_77
          · have c31 : z28.toInt = 0 := congrArg Int32.toInt c29
            have i32 : iv z28 0 0 := iv_Q c31 iz28 (iv_k (x := 0) (k := 0) rfl) (by decide)
            refine lv_iconst (v := -1) hx hb dX11_fewest_69 (by decide) ?_
            refine lv_goto (tgt := 77) hx hb dX11_fewest_70 (by decide) ?_
            exact u_iret C h hr hQ (⟨⟨by decide, by decide⟩, t_28, o_28, k28_u0_NG⟩) (Nat.le_of_ble_eq_true rfl) (Nat.le_of_ble_eq_true rfl) dX11_fewest_77
        · have c22 : g28_u0_14.toInt < 60 := Int32.lt_iff_toInt_lt.mp (iv_nle c19)
          have i23 : iv g28_u0_14 0 59 := iv_Ll c22 ig28_u0_14 (iv_k (x := 60) (k := 60) rfl) (by decide)
          refine lv_aload_n hx hb dX11_fewest_48 rfl (lv_at hl 0 rfl) ?_
          refine lv_iload_n hx hb dX11_fewest_49 rfl (lv_at hl 1 rfl) ?_
          refine lv_iconst (v := 0) hx hb dX11_fewest_50 (by decide) ?_
          refine lv_iconst (v := 4) hx hb dX11_fewest_51 (by decide) ?_
          obtain ⟨_, r33⟩ := t_rec t_28 hu0 (by decide) wf_60
          refine k_v (r_V C h hl (As := [.int u1, .int 0, .int 4]) (rest := []) (s_X11_goes l D G b0 τ f_28 t_28 u0 hu0 u1 jv28_1 0 (iv_w (iv_k (x := 0) (k := 0) rfl) (by decide)) 4 (iv_w (iv_k (x := 4) (k := 4) rfl) (by decide)) g28_u0_14 i23 k28_u0_14 k28_u0_NG) r33 (Cn := RX11) (T := TX11) (N := 32) rfl rfl mk_X11_goes w_1709 w_1711 w_59 w_1712 ⟨Nat.le_of_ble_eq_true rfl, Nat.le_of_ble_eq_true rfl⟩ rfl (Nat.le_of_ble_eq_true rfl) ⟨Nat.le_of_ble_eq_true rfl, Nat.le_of_ble_eq_true rfl⟩ rfl dX11_fewest_52) h (fun f35 H locs p36 h => ?_)
          have n37 : (0 : Int32).toInt = 0 := rfl
          have n38 : (4 : Int32).toInt = 4 := rfl
          obtain ⟨tf35, ogf35, ⟨gg_f35, kpu0_14f35, ipu0_14f35, rpu0_14f35⟩, ngf35⟩ := p36
          have of35 : Fr [60, 67, 60001, 60013, 60014, 60015] τ f f35 := Fr.tr o_28 ogf35 (by decide) (by decide)
          refine lv_goto (tgt := 28) hx hb dX11_fewest_55 (by decide) ?_
          exact ih28 ls f35 H locs gg_f35 (show 60 - gg_f35.toInt < _ by omega) (lv_cons hl 0 rfl (lv_cons hl 1 rfl (lv_cons hl 2 rfl (lv_cons hl 3 rfl (lv_nil hl))))) h tf35 of35 jv28_1 jv28_2 jv28_3 (iv_w ipu0_14f35 (by decide)) ngf35 kpu0_14f35
  refine lv_aload_n hx hb dX11_fewest_0 rfl (lv_at hl 0 rfl) ?_
  refine lv_iconst (v := 0) hx hb dX11_fewest_1 (by decide) ?_
  refine t_put C h t o hu0 (by decide) (by decide) (by decide) wf_60 fw_60 (k := 0) rfl flw_X11_75 (Or.inr ⟨_, _, _, rfl, rfl⟩) (v := .int 0) rfl rfl ⟨_, rfl, ⟨by decide, by decide⟩⟩ dX11_fewest_2 (fun f39 H locs h tf39 of39 hq ha_ hn_ hk_ => ?_)
  have k40 := NGs.pk hNG hk_ (by decide) (by decide)
  have k41 := ha_
  refine lv_aload_n hx hb dX11_fewest_5 rfl (lv_at hl 0 rfl) ?_
  refine lv_iload_n hx hb dX11_fewest_6 rfl (lv_at hl 1 rfl) ?_
  obtain ⟨_, r42⟩ := t_rec tf39 hu0 (by decide) wf_60
  refine k_i (r_V C h hl (As := [.int u1]) (rest := []) (s_X11_isSet l D G b0 τ f39 tf39 u0 hu0 u1 hu1) r42 (Cn := RX11) (T := TX11) (N := 32) rfl rfl mk_X11_isSet w_1620 w_1622 w_51 w_1623 ⟨Nat.le_of_ble_eq_true rfl, Nat.le_of_ble_eq_true rfl⟩ rfl (Nat.le_of_ble_eq_true rfl) ⟨Nat.le_of_ble_eq_true rfl, Nat.le_of_ble_eq_true rfl⟩ rfl dX11_fewest_7) h (fun r43 f44 H locs p45 h => ?_)
  obtain ⟨ir43, tf44, ogf44, cnr43⟩ := p45
  have egf44 := Fr.nil2 ogf44
  subst egf44
  refine lv_if_eq (tgt := 21) hx hb dX11_fewest_10 (by decide) (fun c46 => ?_) (fun c46 => ?_)
  · have c47 : r43.toInt = 0 := congrArg Int32.toInt c46
    have i48 : iv r43 0 0 := iv_Q c47 ir43 (iv_k (x := 0) (k := 0) rfl) (by decide)
    refine lv_iconst (v := -1) hx hb dX11_fewest_21 (by decide) ?_
    exact u_iret C h hr hQ (⟨⟨by decide, by decide⟩, tf39, of39, k40⟩) (Nat.le_of_ble_eq_true rfl) (Nat.le_of_ble_eq_true rfl) dX11_fewest_22
  · have c49 : r43.toInt ≠ 0 := fun z_ => c46 (Int32.toInt_inj.mp z_)
    have i50 : iv r43 1 1 := iv_Nl c49 ir43 (by decide)
    have i51 := cnr43 c49
    refine lv_iload_n hx hb dX11_fewest_13 rfl (lv_at hl 2 rfl) ?_
    refine lv_iload_n hx hb dX11_fewest_14 rfl (lv_at hl 3 rfl) ?_
    refine k_i (r_S C h hl (As := [.int u2, .int u3]) (rest := []) (s_X11_isFar l D G b0 τ f39 tf39 u2 hu2 u3 hu3) mk_X11_isFar w_1693 w_1694 w_1695 ⟨Nat.le_of_ble_eq_true rfl, Nat.le_of_ble_eq_true rfl⟩ rfl (Nat.le_of_ble_eq_true rfl) ⟨Nat.le_of_ble_eq_true rfl, Nat.le_of_ble_eq_true rfl⟩ rfl dX11_fewest_15) h (fun r52 f53 H locs p54 h => ?_)
    obtain ⟨ir52, tf53, ogf53, czr52⟩ := p54
    have egf53 := Fr.nil2 ogf53
    subst egf53
    refine lv_if_eq (tgt := 23) hx hb dX11_fewest_18 (by decide) (fun c55 => ?_) (fun c55 => ?_)
    · have c56 : r52.toInt = 0 := congrArg Int32.toInt c55
      have i57 : iv r52 0 0 := iv_Q c56 ir52 (iv_k (x := 0) (k := 0) rfl) (by decide)
      obtain ⟨i58, i59⟩ := czr52 c56
      refine lv_aload_n hx hb dX11_fewest_23 rfl (lv_at hl 0 rfl) ?_
      refine lv_iload_n hx hb dX11_fewest_24 rfl (lv_at hl 1 rfl) ?_
      obtain ⟨_, r62⟩ := t_rec tf39 hu0 (by decide) wf_60
      refine k_v (r_V C h hl (As := [.int u1]) (rest := []) (s_X11_begins l D G b0 τ f39 tf39 u0 hu0 u1 i51) r62 (Cn := RX11) (T := TX11) (N := 32) rfl rfl mk_X11_begins w_1702 w_1704 w_58 w_1705 ⟨Nat.le_of_ble_eq_true rfl, Nat.le_of_ble_eq_true rfl⟩ rfl (Nat.le_of_ble_eq_true rfl) ⟨Nat.le_of_ble_eq_true rfl, Nat.le_of_ble_eq_true rfl⟩ rfl dX11_fewest_25) h (fun f64 H locs p65 h => ?_)
      obtain ⟨tf64, ogf64, ⟨gg_f64, kpu0_14f64, ipu0_14f64, rpu0_14f64⟩⟩ := p65
      have of64 : Fr [60, 67, 60001, 60013, 60014, 60015] τ f f64 := Fr.tr of39 ogf64 (by decide) (by decide)
      have k66 := NGs.fr k40 ogf64 hu0 (by decide)
      exact L28 61 ls f64 H locs gg_f64 (show 60 - gg_f64.toInt < _ by omega) (lv_cons hl 0 rfl (lv_cons hl 1 rfl (lv_cons hl 2 rfl (lv_cons hl 3 rfl (lv_nil hl))))) h tf64 of64 i51 i58 i59 (iv_w ipu0_14f64 (by decide)) k66 kpu0_14f64
    · have c60 : r52.toInt ≠ 0 := fun z_ => c55 (Int32.toInt_inj.mp z_)
      have i61 : iv r52 1 1 := iv_Nl c60 ir52 (by decide)
      refine lv_iconst (v := -1) hx hb dX11_fewest_21 (by decide) ?_
      exact u_iret C h hr hQ (⟨⟨by decide, by decide⟩, tf39, of39, k40⟩) (Nat.le_of_ble_eq_true rfl) (Nat.le_of_ble_eq_true rfl) dX11_fewest_22
abbrev rm_s_X11_period : Room := { frames := 2, cells := 0, slots := 0, locals := 58 }
set_option maxRecDepth 100000 in
set_option maxHeartbeats 4000000 in
theorem s_X11_period (l : Launch) (D : va_G) (G : Nat → Nat) (b0 : Nat) (τ : Nat → Nat) (f : hM) (t : TI G 9 τ f) (u0 : Nat) (hu0 : τ u0 = 60) (u1 : Int32) (hu1 : iv u1 (-2147483648) 2147483647) (hNG : NGs τ f u0) : mI l yX11_period cX11_period 4 (.int) rm_s_X11_period D G b0 f [.ref u0, .int u1] (fun r f1 => iv r (-1) 100 ∧ TI G 9 τ f1 ∧ Fr [60, 67, 60001, 60013, 60014, 60015] τ f f1 ∧ NGs τ f1 u0) := by
  refine met2 (own := RX11) (by decide) rfl (Nat.le_of_ble_eq_true rfl) ?_
  intro p e s m args below meth c ls Q hQ C hr hini hl h
  have hl : lv_has ls 4 [(0, .ref u0), (1, .int u1)] := hl
  obtain ⟨hx, hb, hml, hown, hts, hE0, hlk⟩ := id C
  have o := Fr.rf [60, 67, 60001, 60013, 60014, 60015] τ f
  have L24 : ∀ (n24 : Nat) (ls : Array Slot) (f_24 : hM) (H : Heap) (locs : List Loc) (v24_2 : Int32) (v24_3 : Int32) (g24_u0_14 : Int32), 61 - v24_3.toInt < (n24 : Int) → lv_has ls 4 [(0, .ref u0), (1, .int u1), (2, .int v24_2), (3, .int v24_3)] → hw D b0 s.heap f_24 H locs → TI G 9 τ f_24 → Fr [60, 67, 60001, 60013, 60014, 60015] τ f f_24 → iv u1 0 7 → iv v24_2 0 100 → iv v24_3 1 61 → iv g24_u0_14 0 60 → NGs τ f_24 u0 → atp f_24 u0 (fd 14 (.int g24_u0_14)) → g24_u0_14.toInt = v24_3.toInt - 1 → W p l e rm_s_X11_period s m args below meth c H locs 0 0 Q (F0 m 24 ls []) := by
    intro n24
    induction n24 with
    | zero => intro ls f_24 H locs v24_2 v24_3 g24_u0_14 hm24 hl h t_24 o_24 jv24_1 iv24_2 iv24_3 ig24_u0_14 k24_u0_NG k24_u0_14 hv24_0; exact absurd hm24 (by omega)
    | succ n24 ih24 =>
      intro ls f_24 H locs v24_2 v24_3 g24_u0_14 hm24 hl h t_24 o_24 jv24_1 iv24_2 iv24_3 ig24_u0_14 k24_u0_NG k24_u0_14 hv24_0
      refine lv_iload_n hx hb dX11_period_24 rfl (lv_at hl 3 rfl) ?_
      refine lv_bipush (v := 60) hx hb dX11_period_25 (by decide) ?_
      refine lv_icmp_gt (tgt := 72) hx hb dX11_period_27 (by decide) (fun c1 => ?_) (fun c1 => ?_)
      · have c2 : 60 < v24_3.toInt := Int32.lt_iff_toInt_lt.mp c1
        have i3 : iv v24_3 61 61 := iv_Lr c2 (iv_k (x := 60) (k := 60) rfl) iv24_3 (by decide)
        refine lv_iload_n hx hb dX11_period_72 rfl (lv_at hl 2 rfl) ?_
        exact u_iret C h hr hQ (⟨(iv_w iv24_2 (by decide)), t_24, o_24, k24_u0_NG⟩) (Nat.le_of_ble_eq_true rfl) (Nat.le_of_ble_eq_true rfl) dX11_period_73
      · have c4 : v24_3.toInt ≤ 60 := Int32.le_iff_toInt_le.mp (iv_nlt c1)
        have i5 : iv v24_3 1 60 := iv_El c4 iv24_3 (iv_k (x := 60) (k := 60) rfl) (by decide)
        refine lv_aload_n hx hb dX11_period_30 rfl (lv_at hl 0 rfl) ?_
        refine lv_iload_n hx hb dX11_period_31 rfl (lv_at hl 1 rfl) ?_
        refine lv_iconst (v := 0) hx hb dX11_period_32 (by decide) ?_
        refine lv_iconst (v := 4) hx hb dX11_period_33 (by decide) ?_
        obtain ⟨_, r6⟩ := t_rec t_24 hu0 (by decide) wf_60
        refine k_v (r_V C h hl (As := [.int u1, .int 0, .int 4]) (rest := []) (s_X11_goes l D G b0 τ f_24 t_24 u0 hu0 u1 jv24_1 0 (iv_w (iv_k (x := 0) (k := 0) rfl) (by decide)) 4 (iv_w (iv_k (x := 4) (k := 4) rfl) (by decide)) g24_u0_14 (show iv g24_u0_14 0 59 from by omega) k24_u0_14 k24_u0_NG) r6 (Cn := RX11) (T := TX11) (N := 32) rfl rfl mk_X11_goes w_1709 w_1711 w_59 w_1712 ⟨Nat.le_of_ble_eq_true rfl, Nat.le_of_ble_eq_true rfl⟩ rfl (Nat.le_of_ble_eq_true rfl) ⟨Nat.le_of_ble_eq_true rfl, Nat.le_of_ble_eq_true rfl⟩ rfl dX11_period_34) h (fun f8 H locs p9 h => ?_)
        have n10 : (0 : Int32).toInt = 0 := rfl
        have n11 : (4 : Int32).toInt = 4 := rfl
        obtain ⟨tf8, ogf8, ⟨gg_f8, kpu0_14f8, ipu0_14f8, rpu0_14f8⟩, ngf8⟩ := p9
        have of8 : Fr [60, 67, 60001, 60013, 60014, 60015] τ f f8 := Fr.tr o_24 ogf8 (by decide) (by decide)
        refine lv_aload_n hx hb dX11_period_37 rfl (lv_at hl 0 rfl) ?_
        refine lv_aload_n hx hb dX11_period_38 rfl (lv_at hl 0 rfl) ?_
        refine lv_iload_n hx hb dX11_period_39 rfl (lv_at hl 1 rfl) ?_
        refine lv_bipush (v := 8) hx hb dX11_period_40 (by decide) ?_
        obtain ⟨_, r12⟩ := t_rec tf8 hu0 (by decide) wf_60
        refine k_i (r_V C h hl (As := [.int u1, .int 8]) (rest := [.ref u0]) (s_X11_weightOf l D G b0 τ f8 tf8 u0 hu0 u1 jv24_1 8 (iv_w (iv_k (x := 8) (k := 8) rfl) (by decide))) r12 (Cn := RX11) (T := TX11) (N := 32) rfl rfl mk_X11_weightOf w_1631 w_1633 w_52 w_1634 ⟨Nat.le_of_ble_eq_true rfl, Nat.le_of_ble_eq_true rfl⟩ rfl (Nat.le_of_ble_eq_true rfl) ⟨Nat.le_of_ble_eq_true rfl, Nat.le_of_ble_eq_true rfl⟩ rfl dX11_period_42) h (fun r13 f14 H locs p15 h => ?_)
        obtain ⟨ir13, tf14, ogf14⟩ := p15
        have egf14 := Fr.nil2 ogf14
        subst egf14
        refine lv_aload_n hx hb dX11_period_45 rfl (lv_at hl 0 rfl) ?_
        refine lv_iload_n hx hb dX11_period_46 rfl (lv_at hl 1 rfl) ?_
        refine lv_bipush (v := 9) hx hb dX11_period_47 (by decide) ?_
        obtain ⟨_, r16⟩ := t_rec tf8 hu0 (by decide) wf_60
        refine k_i (r_V C h hl (As := [.int u1, .int 9]) (rest := [.int r13, .ref u0]) (s_X11_weightOf l D G b0 τ f8 tf8 u0 hu0 u1 jv24_1 9 (iv_w (iv_k (x := 9) (k := 9) rfl) (by decide))) r16 (Cn := RX11) (T := TX11) (N := 32) rfl rfl mk_X11_weightOf w_1631 w_1633 w_52 w_1634 ⟨Nat.le_of_ble_eq_true rfl, Nat.le_of_ble_eq_true rfl⟩ rfl (Nat.le_of_ble_eq_true rfl) ⟨Nat.le_of_ble_eq_true rfl, Nat.le_of_ble_eq_true rfl⟩ rfl dX11_period_49) h (fun r17 f18 H locs p19 h => ?_)
        obtain ⟨ir17, tf18, ogf18⟩ := p19
        have egf18 := Fr.nil2 ogf18
        subst egf18
        obtain ⟨_, r20⟩ := t_rec tf8 hu0 (by decide) wf_60
        refine k_l (r_V C h hl (As := [.int r13, .int r17]) (rest := []) (s_X11_gridAt l D G b0 τ f8 tf8 u0 hu0 r13 (iv_w ir13 (by decide)) r17 (iv_w ir17 (by decide))) r20 (Cn := RX11) (T := TX11) (N := 32) rfl rfl mk_X11_gridAt w_1720 w_1722 w_60 w_1723 ⟨Nat.le_of_ble_eq_true rfl, Nat.le_of_ble_eq_true rfl⟩ rfl (Nat.le_of_ble_eq_true rfl) ⟨Nat.le_of_ble_eq_true rfl, Nat.le_of_ble_eq_true rfl⟩ rfl dX11_period_52) h (fun r21 f22 H locs p23 h => ?_)
        obtain ⟨tf22, ogf22⟩ := p23
        have egf22 := Fr.nil2 ogf22
        subst egf22
        refine lv_lconst (v := 0) hx hb dX11_period_55 (by decide) ?_
        refine W.lcmp hx hb dX11_period_56 (i_topc (fun z24 ez24 mz24 iz24 => ?_))
        refine lv_if_le (tgt := 66) hx hb dX11_period_57 (by decide) (fun c25 => ?_) (fun c25 => ?_)
        · have c26 : z24.toInt ≤ 0 := Int32.le_iff_toInt_le.mp c25
          have i27 : iv z24 (-1) 0 := iv_El c26 iz24 (iv_k (x := 0) (k := 0) rfl) (by decide)
          refine i_inc hx hb dX11_period_66 hl (k := 3) rfl i5 rfl (lo := 2) (hi := 61) (by decide) (by decide) (lv' := fun v => [(3, .int v), (0, .ref u0), (1, .int u1), (2, .int v24_2)]) (fun _ => rfl) (fun z30 ls ez30 mz30 iz30 hl => ?_)
          refine lv_goto (tgt := 24) hx hb dX11_period_69 (by decide) ?_
          exact ih24 ls f8 H locs v24_2 z30 gg_f8 (show 61 - z30.toInt < _ by omega) (lv_cons hl 1 rfl (lv_cons hl 2 rfl (lv_cons hl 3 rfl (lv_cons hl 0 rfl (lv_nil hl))))) h tf8 of8 jv24_1 iv24_2 (iv_w iz30 (by decide)) (iv_w ipu0_14f8 (by decide)) ngf8 kpu0_14f8 (show gg_f8.toInt = z30.toInt - 1 by omega)
        · have c28 : 0 < z24.toInt := Int32.lt_iff_toInt_lt.mp (iv_nle c25)
          have i29 : iv z24 1 1 := iv_Lr c28 (iv_k (x := 0) (k := 0) rfl) iz24 (by decide)
          refine lv_iload_n hx hb dX11_period_60 rfl (lv_at hl 2 rfl) ?_
          refine lv_iload_n hx hb dX11_period_61 rfl (lv_at hl 3 rfl) ?_
          refine k_i (r_S C h hl (As := [.int v24_2, .int v24_3]) (rest := []) (s_X11_common l D G b0 τ f8 tf8 v24_2 iv24_2 v24_3 (iv_w i5 (by decide))) mk_X11_common w_1858 w_1859 w_1860 ⟨Nat.le_of_ble_eq_true rfl, Nat.le_of_ble_eq_true rfl⟩ rfl (Nat.le_of_ble_eq_true rfl) ⟨Nat.le_of_ble_eq_true rfl, Nat.le_of_ble_eq_true rfl⟩ rfl dX11_period_62) h (fun r31 f32 H locs p33 h => ?_)
          obtain ⟨ir31, tf32, ogf32⟩ := p33
          have egf32 := Fr.nil2 ogf32
          subst egf32
          refine lv_istore_n (lv' := [(2, .int r31), (0, .ref u0), (1, .int u1), (3, .int v24_3)]) hx hb dX11_period_65 rfl hl (by decide) rfl (fun ls hl => ?_)
          refine i_inc hx hb dX11_period_66 hl (k := 3) rfl i5 rfl (lo := 2) (hi := 61) (by decide) (by decide) (lv' := fun v => [(3, .int v), (2, .int r31), (0, .ref u0), (1, .int u1)]) (fun _ => rfl) (fun z34 ls ez34 mz34 iz34 hl => ?_)
          refine lv_goto (tgt := 24) hx hb dX11_period_69 (by decide) ?_
          exact ih24 ls f8 H locs r31 z34 gg_f8 (show 61 - z34.toInt < _ by omega) (lv_cons hl 2 rfl (lv_cons hl 3 rfl (lv_cons hl 1 rfl (lv_cons hl 0 rfl (lv_nil hl))))) h tf8 of8 jv24_1 ir31 (iv_w iz34 (by decide)) (iv_w ipu0_14f8 (by decide)) ngf8 kpu0_14f8 (show gg_f8.toInt = z34.toInt - 1 by omega)
  refine lv_aload_n hx hb dX11_period_0 rfl (lv_at hl 0 rfl) ?_
  refine lv_iconst (v := 0) hx hb dX11_period_1 (by decide) ?_
  refine t_put C h t o hu0 (by decide) (by decide) (by decide) wf_60 fw_60 (k := 0) rfl flw_X11_75 (Or.inr ⟨_, _, _, rfl, rfl⟩) (v := .int 0) rfl rfl ⟨_, rfl, ⟨by decide, by decide⟩⟩ dX11_period_2 (fun f35 H locs h tf35 of35 hq ha_ hn_ hk_ => ?_)
  have k36 := NGs.pk hNG hk_ (by decide) (by decide)
  have k37 := ha_
  refine lv_aload_n hx hb dX11_period_5 rfl (lv_at hl 0 rfl) ?_
  refine lv_iload_n hx hb dX11_period_6 rfl (lv_at hl 1 rfl) ?_
  obtain ⟨_, r38⟩ := t_rec tf35 hu0 (by decide) wf_60
  refine k_i (r_V C h hl (As := [.int u1]) (rest := []) (s_X11_isSet l D G b0 τ f35 tf35 u0 hu0 u1 hu1) r38 (Cn := RX11) (T := TX11) (N := 32) rfl rfl mk_X11_isSet w_1620 w_1622 w_51 w_1623 ⟨Nat.le_of_ble_eq_true rfl, Nat.le_of_ble_eq_true rfl⟩ rfl (Nat.le_of_ble_eq_true rfl) ⟨Nat.le_of_ble_eq_true rfl, Nat.le_of_ble_eq_true rfl⟩ rfl dX11_period_7) h (fun r39 f40 H locs p41 h => ?_)
  obtain ⟨ir39, tf40, ogf40, cnr39⟩ := p41
  have egf40 := Fr.nil2 ogf40
  subst egf40
  refine lv_if_ne (tgt := 15) hx hb dX11_period_10 (by decide) (fun c42 => ?_) (fun c42 => ?_)
  · have c43 : r39.toInt ≠ 0 := fun z_ => c42 (Int32.toInt_inj.mp z_)
    have i44 : iv r39 1 1 := iv_Nl c43 ir39 (by decide)
    have i45 := cnr39 c43
    refine lv_aload_n hx hb dX11_period_15 rfl (lv_at hl 0 rfl) ?_
    refine lv_iload_n hx hb dX11_period_16 rfl (lv_at hl 1 rfl) ?_
    obtain ⟨_, r48⟩ := t_rec tf35 hu0 (by decide) wf_60
    refine k_v (r_V C h hl (As := [.int u1]) (rest := []) (s_X11_begins l D G b0 τ f35 tf35 u0 hu0 u1 i45) r48 (Cn := RX11) (T := TX11) (N := 32) rfl rfl mk_X11_begins w_1702 w_1704 w_58 w_1705 ⟨Nat.le_of_ble_eq_true rfl, Nat.le_of_ble_eq_true rfl⟩ rfl (Nat.le_of_ble_eq_true rfl) ⟨Nat.le_of_ble_eq_true rfl, Nat.le_of_ble_eq_true rfl⟩ rfl dX11_period_17) h (fun f50 H locs p51 h => ?_)
    obtain ⟨tf50, ogf50, ⟨gg_f50, kpu0_14f50, ipu0_14f50, rpu0_14f50⟩⟩ := p51
    have of50 : Fr [60, 67, 60001, 60013, 60014, 60015] τ f f50 := Fr.tr of35 ogf50 (by decide) (by decide)
    have k52 := NGs.fr k36 ogf50 hu0 (by decide)
    refine lv_iconst (v := 0) hx hb dX11_period_20 (by decide) ?_
    refine lv_istore_n (lv' := [(2, .int 0), (0, .ref u0), (1, .int u1)]) hx hb dX11_period_21 rfl hl (by decide) rfl (fun ls hl => ?_)
    refine lv_iconst (v := 1) hx hb dX11_period_22 (by decide) ?_
    refine lv_istore_n (lv' := [(3, .int 1), (2, .int 0), (0, .ref u0), (1, .int u1)]) hx hb dX11_period_23 rfl hl (by decide) rfl (fun ls hl => ?_)
    exact L24 61 ls f50 H locs 0 1 gg_f50 (by decide) (lv_cons hl 2 rfl (lv_cons hl 3 rfl (lv_cons hl 1 rfl (lv_cons hl 0 rfl (lv_nil hl))))) h tf50 of50 i45 ⟨by decide, by decide⟩ ⟨by decide, by decide⟩ (iv_w ipu0_14f50 (by decide)) k52 kpu0_14f50 (show gg_f50.toInt = 1 - 1 by omega)
  · have c46 : r39.toInt = 0 := congrArg Int32.toInt c42
    have i47 : iv r39 0 0 := iv_Q c46 ir39 (iv_k (x := 0) (k := 0) rfl) (by decide)
    refine lv_iconst (v := -1) hx hb dX11_period_13 (by decide) ?_
    exact u_iret C h hr hQ (⟨⟨by decide, by decide⟩, tf35, of35, k36⟩) (Nat.le_of_ble_eq_true rfl) (Nat.le_of_ble_eq_true rfl) dX11_period_14
abbrev rm_s_X11_meet : Room := { frames := 3, cells := 0, slots := 0, locals := 83 }
set_option maxRecDepth 100000 in
set_option maxHeartbeats 4000000 in
theorem s_X11_meet (l : Launch) (D : va_G) (G : Nat → Nat) (b0 : Nat) (τ : Nat → Nat) (f : hM) (t : TI G 9 τ f) (u0 : Nat) (hu0 : τ u0 = 60) (u1 : Int32) (hu1 : iv u1 (-2147483648) 2147483647) (u2 : Int32) (hu2 : iv u2 (-2147483648) 2147483647) (u3 : Int32) (hu3 : iv u3 (-2147483648) 2147483647) (hNG : NGs τ f u0) : mI l yX11_meet cX11_meet 7 (.int) rm_s_X11_meet D G b0 f [.ref u0, .int u1, .int u2, .int u3] (fun r f1 => iv r (-1000002) 1000002 ∧ TI G 9 τ f1 ∧ Fr [60, 67, 68, 60001, 60013, 60014, 60015] τ f f1 ∧ NGs τ f1 u0) := by
  refine met2 (own := RX11) (by decide) rfl (Nat.le_of_ble_eq_true rfl) ?_
  intro p e s m args below meth c ls Q hQ C hr hini hl h
  have hl : lv_has ls 7 [(0, .ref u0), (1, .int u1), (2, .int u2), (3, .int u3)] := hl
  obtain ⟨hx, hb, hml, hown, hts, hE0, hlk⟩ := id C
  have o := Fr.rf [60, 67, 68, 60001, 60013, 60014, 60015] τ f
  have L41 : ∀ (n41 : Nat) (ls : Array Slot) (f_41 : hM) (H : Heap) (locs : List Loc) (v41_4 : Int32) (g41_u0_14 : Int32), 19600 - v41_4.toInt < (n41 : Int) → lv_has ls 7 [(0, .ref u0), (2, .int u2), (3, .int u3), (4, .int v41_4)] → hw D b0 s.heap f_41 H locs → TI G 9 τ f_41 → Fr [60, 67, 68, 60001, 60013, 60014, 60015] τ f f_41 → iv u2 0 7 → iv u3 0 60 → iv v41_4 0 19600 → iv g41_u0_14 0 60 → NGs τ f_41 u0 → atp f_41 u0 (fd 14 (.int g41_u0_14)) → W p l e rm_s_X11_meet s m args below meth c H locs 0 0 Q (F0 m 41 ls []) := by
    intro n41
    induction n41 with
    | zero => intro ls f_41 H locs v41_4 g41_u0_14 hm41 hl h t_41 o_41 jv41_2 jv41_3 iv41_4 ig41_u0_14 k41_u0_NG k41_u0_14; exact absurd hm41 (by omega)
    | succ n41 ih41 =>
      intro ls f_41 H locs v41_4 g41_u0_14 hm41 hl h t_41 o_41 jv41_2 jv41_3 iv41_4 ig41_u0_14 k41_u0_NG k41_u0_14
      have L83 : ∀ (n83 : Nat) (ls : Array Slot) (f_83 : hM) (H : Heap) (locs : List Loc) (v83_4 : Int64) (v83_6 : Int32) (g83_u0_14 : Int32), 19600 - v83_6.toInt < (n83 : Int) → lv_has ls 7 [(0, .ref u0), (4, .long v83_4), (6, .int v83_6)] → hw D b0 s.heap f_83 H locs → TI G 9 τ f_83 → Fr [60, 67, 68, 60001, 60013, 60014, 60015] τ f f_83 → ivl v83_4 (-1000002) 1000002 → iv v83_6 0 19600 → iv g83_u0_14 0 60 → NGs τ f_83 u0 → atp f_83 u0 (fd 14 (.int g83_u0_14)) → W p l e rm_s_X11_meet s m args below meth c H locs 0 0 Q (F0 m 83 ls []) := by
        intro n83
        induction n83 with
        | zero => intro ls f_83 H locs v83_4 v83_6 g83_u0_14 hm83 hl h t_83 o_83 iv83_4 iv83_6 ig83_u0_14 k83_u0_NG k83_u0_14; exact absurd hm83 (by omega)
        | succ n83 ih83 =>
          intro ls f_83 H locs v83_4 v83_6 g83_u0_14 hm83 hl h t_83 o_83 iv83_4 iv83_6 ig83_u0_14 k83_u0_NG k83_u0_14
          refine lv_iload hx hb dX11_meet_83 (lv_at hl 2 rfl) ?_
          refine lv_sipush (v := 19600) hx hb dX11_meet_85 (by decide) ?_
          refine lv_icmp_ge (tgt := 121) hx hb dX11_meet_88 (by decide) (fun c1 => ?_) (fun c1 => ?_)
          · have c2 : 19600 ≤ v83_6.toInt := Int32.le_iff_toInt_le.mp c1
            have i3 : iv v83_6 19600 19600 := iv_Er c2 (iv_k (x := 19600) (k := 19600) rfl) iv83_6 (by decide)
            refine lv_lload hx hb dX11_meet_121 (lv_at hl 1 rfl) ?_
            refine lv_l2i hx hb dX11_meet_123 rfl (i_top (iv_l2i iv83_4 (by decide)) (fun z6 ez6 iz6 => ?_))
            exact u_iret C h hr hQ (⟨iz6, t_83, o_83, k83_u0_NG⟩) (Nat.le_of_ble_eq_true rfl) (Nat.le_of_ble_eq_true rfl) dX11_meet_124
          · have c4 : v83_6.toInt < 19600 := Int32.lt_iff_toInt_lt.mp (iv_nle c1)
            have i5 : iv v83_6 0 19599 := iv_Ll c4 iv83_6 (iv_k (x := 19600) (k := 19600) rfl) (by decide)
            refine lv_lload hx hb dX11_meet_91 (lv_at hl 1 rfl) ?_
            refine lv_aload_n hx hb dX11_meet_93 rfl (lv_at hl 0 rfl) ?_
            refine t_getr (tq := 68) C h t_83 hu0 (by decide) wf_60 rfl fl_X11_45 dX11_meet_94 (fun q7 tq7 => ?_)
            refine lv_iload hx hb dX11_meet_97 (lv_at hl 2 rfl) ?_
            refine t_lald C h t_83 tq7 (by decide) wf_68 (iv_in i5 (by decide)) dX11_meet_99 (fun w8 => ?_)
            refine lv_aload_n hx hb dX11_meet_100 rfl (lv_at hl 0 rfl) ?_
            refine t_getr (tq := 67) C h t_83 hu0 (by decide) wf_60 rfl fl_X11_29 dX11_meet_101 (fun q9 tq9 => ?_)
            refine lv_iload hx hb dX11_meet_104 (lv_at hl 2 rfl) ?_
            refine t_lald C h t_83 tq9 (by decide) wf_67 (iv_in i5 (by decide)) dX11_meet_106 (fun w10 => ?_)
            refine lv_lmul hx hb dX11_meet_107 (lv_topl (fun w11 ew11 => ?_))
            refine lv_ladd hx hb dX11_meet_108 (lv_topl (fun w12 ew12 => ?_))
            refine lv_ldc2 (v := 1000003) hx hb hown (hts _ w_1719) dX11_meet_109 ?_
            refine lv_lrem hx hb dX11_meet_112 (by decide) (i_topl (lrem_iv (k := 1000003) rfl (by decide) (lo := -1000002) (hi := 1000002) (by decide)) (fun w13 ew13 iw13 => ?_))
            refine lv_lstore (lv' := [(4, .long w13), (0, .ref u0), (6, .int v83_6)]) hx hb dX11_meet_113 hl (by decide) rfl (fun ls hl => ?_)
            refine i_inc hx hb dX11_meet_115 hl (k := 2) rfl i5 rfl (lo := 1) (hi := 19600) (by decide) (by decide) (lv' := fun v => [(6, .int v), (4, .long w13), (0, .ref u0)]) (fun _ => rfl) (fun z14 ls ez14 mz14 iz14 hl => ?_)
            refine lv_goto (tgt := 83) hx hb dX11_meet_118 (by decide) ?_
            exact ih83 ls f_83 H locs w13 z14 g83_u0_14 (show 19600 - z14.toInt < _ by omega) (lv_cons hl 2 rfl (lv_cons hl 1 rfl (lv_cons hl 0 rfl (lv_nil hl)))) h t_83 o_83 (ivl_w iw13 (by decide)) (iv_w iz14 (by decide)) ig83_u0_14 k83_u0_NG k83_u0_14
      refine lv_iload hx hb dX11_meet_41 (lv_at hl 3 rfl) ?_
      refine lv_sipush (v := 19600) hx hb dX11_meet_43 (by decide) ?_
      refine lv_icmp_ge (tgt := 69) hx hb dX11_meet_46 (by decide) (fun c15 => ?_) (fun c15 => ?_)
      · have c16 : 19600 ≤ v41_4.toInt := Int32.le_iff_toInt_le.mp c15
        have i17 : iv v41_4 19600 19600 := iv_Er c16 (iv_k (x := 19600) (k := 19600) rfl) iv41_4 (by decide)
        refine lv_aload_n hx hb dX11_meet_69 rfl (lv_at hl 0 rfl) ?_
        refine lv_iload_n hx hb dX11_meet_70 rfl (lv_at hl 1 rfl) ?_
        refine lv_iconst (v := 0) hx hb dX11_meet_71 (by decide) ?_
        refine lv_iconst (v := 1) hx hb dX11_meet_72 (by decide) ?_
        refine lv_iload_n hx hb dX11_meet_73 rfl (lv_at hl 2 rfl) ?_
        obtain ⟨_, r20⟩ := t_rec t_41 hu0 (by decide) wf_60
        refine k_v (r_V C h hl (As := [.int u2, .int 0, .int 1, .int u3]) (rest := []) (s_X11_goesOn l D G b0 τ f_41 t_41 u0 hu0 u2 jv41_2 0 (iv_w (iv_k (x := 0) (k := 0) rfl) (by decide)) 1 (iv_w (iv_k (x := 1) (k := 1) rfl) (by decide)) u3 jv41_3 k41_u0_NG) r20 (Cn := RX11) (T := TX11) (N := 32) rfl rfl mk_X11_goesOn w_1698 w_1700 w_57 w_1701 ⟨Nat.le_of_ble_eq_true rfl, Nat.le_of_ble_eq_true rfl⟩ rfl (Nat.le_of_ble_eq_true rfl) ⟨Nat.le_of_ble_eq_true rfl, Nat.le_of_ble_eq_true rfl⟩ rfl dX11_meet_74) h (fun f22 H locs p23 h => ?_)
        have n24 : (0 : Int32).toInt = 0 := rfl
        have n25 : (1 : Int32).toInt = 1 := rfl
        obtain ⟨tf22, ogf22, ⟨gg_f22, kpu0_14f22, ipu0_14f22, rpu0_14f22⟩, ngf22⟩ := p23
        have of22 : Fr [60, 67, 68, 60001, 60013, 60014, 60015] τ f f22 := Fr.tr o_41 ogf22 (by decide) (by decide)
        refine lv_lconst (v := 0) hx hb dX11_meet_77 (by decide) ?_
        refine lv_lstore (lv' := [(4, .long 0), (0, .ref u0), (2, .int u2), (3, .int u3)]) hx hb dX11_meet_78 hl (by decide) rfl (fun ls hl => ?_)
        refine lv_iconst (v := 0) hx hb dX11_meet_80 (by decide) ?_
        refine lv_istore (lv' := [(6, .int 0), (4, .long 0), (0, .ref u0), (2, .int u2), (3, .int u3)]) hx hb dX11_meet_81 hl (by decide) rfl (fun ls hl => ?_)
        exact L83 19601 ls f22 H locs 0 0 gg_f22 (by decide) (lv_cons hl 2 rfl (lv_cons hl 1 rfl (lv_cons hl 0 rfl (lv_nil hl)))) h tf22 of22 (ivl_w (ivl_k (x := 0) (k := 0) rfl) (by decide)) ⟨by decide, by decide⟩ ipu0_14f22 ngf22 kpu0_14f22
      · have c18 : v41_4.toInt < 19600 := Int32.lt_iff_toInt_lt.mp (iv_nle c15)
        have i19 : iv v41_4 0 19599 := iv_Ll c18 iv41_4 (iv_k (x := 19600) (k := 19600) rfl) (by decide)
        refine lv_aload_n hx hb dX11_meet_49 rfl (lv_at hl 0 rfl) ?_
        refine t_getr (tq := 68) C h t_41 hu0 (by decide) wf_60 rfl fl_X11_45 dX11_meet_50 (fun q26 tq26 => ?_)
        refine lv_iload hx hb dX11_meet_53 (lv_at hl 3 rfl) ?_
        refine lv_aload_n hx hb dX11_meet_55 rfl (lv_at hl 0 rfl) ?_
        refine t_getr (tq := 67) C h t_41 hu0 (by decide) wf_60 rfl fl_X11_29 dX11_meet_56 (fun q27 tq27 => ?_)
        refine lv_iload hx hb dX11_meet_59 (lv_at hl 3 rfl) ?_
        refine t_lald C h t_41 tq27 (by decide) wf_67 (iv_in i19 (by decide)) dX11_meet_61 (fun w28 => ?_)
        refine t_last C h t_41 o_41 tq26 (by decide) (by decide) wf_68 fw_68 (iv_in i19 (by decide)) dX11_meet_62 (fun f29 H locs h tf29 of29 hq => ?_)
        have k30 := NGs.tg k41_u0_NG hq hu0 (by decide)
        have k31 := atp.tg k41_u0_14 hq hu0 (by decide)
        refine i_inc hx hb dX11_meet_63 hl (k := 3) rfl i19 rfl (lo := 1) (hi := 19600) (by decide) (by decide) (lv' := fun v => [(4, .int v), (0, .ref u0), (2, .int u2), (3, .int u3)]) (fun _ => rfl) (fun z32 ls ez32 mz32 iz32 hl => ?_)
        refine lv_goto (tgt := 41) hx hb dX11_meet_66 (by decide) ?_
        exact ih41 ls f29 H locs z32 g41_u0_14 (show 19600 - z32.toInt < _ by omega) (lv_cons hl 1 rfl (lv_cons hl 2 rfl (lv_cons hl 3 rfl (lv_cons hl 0 rfl (lv_nil hl))))) h tf29 of29 jv41_2 jv41_3 (iv_w iz32 (by decide)) ig41_u0_14 k30 k31
  refine lv_aload_n hx hb dX11_meet_0 rfl (lv_at hl 0 rfl) ?_
  refine lv_iconst (v := 0) hx hb dX11_meet_1 (by decide) ?_
  refine t_put C h t o hu0 (by decide) (by decide) (by decide) wf_60 fw_60 (k := 0) rfl flw_X11_75 (Or.inr ⟨_, _, _, rfl, rfl⟩) (v := .int 0) rfl rfl ⟨_, rfl, ⟨by decide, by decide⟩⟩ dX11_meet_2 (fun f33 H locs h tf33 of33 hq ha_ hn_ hk_ => ?_)
  have k34 := NGs.pk hNG hk_ (by decide) (by decide)
  have k35 := ha_
  refine lv_aload_n hx hb dX11_meet_5 rfl (lv_at hl 0 rfl) ?_
  refine lv_iload_n hx hb dX11_meet_6 rfl (lv_at hl 1 rfl) ?_
  obtain ⟨_, r36⟩ := t_rec tf33 hu0 (by decide) wf_60
  refine k_i (r_V C h hl (As := [.int u1]) (rest := []) (s_X11_isSet l D G b0 τ f33 tf33 u0 hu0 u1 hu1) r36 (Cn := RX11) (T := TX11) (N := 32) rfl rfl mk_X11_isSet w_1620 w_1622 w_51 w_1623 ⟨Nat.le_of_ble_eq_true rfl, Nat.le_of_ble_eq_true rfl⟩ rfl (Nat.le_of_ble_eq_true rfl) ⟨Nat.le_of_ble_eq_true rfl, Nat.le_of_ble_eq_true rfl⟩ rfl dX11_meet_7) h (fun r37 f38 H locs p39 h => ?_)
  obtain ⟨ir37, tf38, ogf38, cnr37⟩ := p39
  have egf38 := Fr.nil2 ogf38
  subst egf38
  refine lv_if_eq (tgt := 28) hx hb dX11_meet_10 (by decide) (fun c40 => ?_) (fun c40 => ?_)
  · have c41 : r37.toInt = 0 := congrArg Int32.toInt c40
    have i42 : iv r37 0 0 := iv_Q c41 ir37 (iv_k (x := 0) (k := 0) rfl) (by decide)
    refine lv_iconst (v := -1) hx hb dX11_meet_28 (by decide) ?_
    exact u_iret C h hr hQ (⟨⟨by decide, by decide⟩, tf33, of33, k34⟩) (Nat.le_of_ble_eq_true rfl) (Nat.le_of_ble_eq_true rfl) dX11_meet_29
  · have c43 : r37.toInt ≠ 0 := fun z_ => c40 (Int32.toInt_inj.mp z_)
    have i44 : iv r37 1 1 := iv_Nl c43 ir37 (by decide)
    have i45 := cnr37 c43
    refine lv_aload_n hx hb dX11_meet_13 rfl (lv_at hl 0 rfl) ?_
    refine lv_iload_n hx hb dX11_meet_14 rfl (lv_at hl 2 rfl) ?_
    obtain ⟨_, r46⟩ := t_rec tf33 hu0 (by decide) wf_60
    refine k_i (r_V C h hl (As := [.int u2]) (rest := []) (s_X11_isSet l D G b0 τ f33 tf33 u0 hu0 u2 hu2) r46 (Cn := RX11) (T := TX11) (N := 32) rfl rfl mk_X11_isSet w_1620 w_1622 w_51 w_1623 ⟨Nat.le_of_ble_eq_true rfl, Nat.le_of_ble_eq_true rfl⟩ rfl (Nat.le_of_ble_eq_true rfl) ⟨Nat.le_of_ble_eq_true rfl, Nat.le_of_ble_eq_true rfl⟩ rfl dX11_meet_15) h (fun r47 f48 H locs p49 h => ?_)
    obtain ⟨ir47, tf48, ogf48, cnr47⟩ := p49
    have egf48 := Fr.nil2 ogf48
    subst egf48
    refine lv_if_eq (tgt := 28) hx hb dX11_meet_18 (by decide) (fun c50 => ?_) (fun c50 => ?_)
    · have c51 : r47.toInt = 0 := congrArg Int32.toInt c50
      have i52 : iv r47 0 0 := iv_Q c51 ir47 (iv_k (x := 0) (k := 0) rfl) (by decide)
      refine lv_iconst (v := -1) hx hb dX11_meet_28 (by decide) ?_
      exact u_iret C h hr hQ (⟨⟨by decide, by decide⟩, tf33, of33, k34⟩) (Nat.le_of_ble_eq_true rfl) (Nat.le_of_ble_eq_true rfl) dX11_meet_29
    · have c53 : r47.toInt ≠ 0 := fun z_ => c50 (Int32.toInt_inj.mp z_)
      have i54 : iv r47 1 1 := iv_Nl c53 ir47 (by decide)
      have i55 := cnr47 c53
      refine lv_iload_n hx hb dX11_meet_21 rfl (lv_at hl 3 rfl) ?_
      refine k_i (r_S C h hl (As := [.int u3]) (rest := []) (s_X11_isLong l D G b0 τ f33 tf33 u3 hu3) mk_X11_isLong w_1689 w_1690 w_1691 ⟨Nat.le_of_ble_eq_true rfl, Nat.le_of_ble_eq_true rfl⟩ rfl (Nat.le_of_ble_eq_true rfl) ⟨Nat.le_of_ble_eq_true rfl, Nat.le_of_ble_eq_true rfl⟩ rfl dX11_meet_22) h (fun r56 f57 H locs p58 h => ?_)
      obtain ⟨ir56, tf57, ogf57, cnr56⟩ := p58
      have egf57 := Fr.nil2 ogf57
      subst egf57
      refine lv_if_ne (tgt := 30) hx hb dX11_meet_25 (by decide) (fun c59 => ?_) (fun c59 => ?_)
      · have c60 : r56.toInt ≠ 0 := fun z_ => c59 (Int32.toInt_inj.mp z_)
        have i61 : iv r56 1 1 := iv_Nl c60 ir56 (by decide)
        have i62 := cnr56 c60
        refine lv_aload_n hx hb dX11_meet_30 rfl (lv_at hl 0 rfl) ?_
        refine lv_iload_n hx hb dX11_meet_31 rfl (lv_at hl 1 rfl) ?_
        refine lv_iconst (v := 0) hx hb dX11_meet_32 (by decide) ?_
        refine lv_iconst (v := 1) hx hb dX11_meet_33 (by decide) ?_
        refine lv_iload_n hx hb dX11_meet_34 rfl (lv_at hl 3 rfl) ?_
        obtain ⟨_, r65⟩ := t_rec tf33 hu0 (by decide) wf_60
        refine k_v (r_V C h hl (As := [.int u1, .int 0, .int 1, .int u3]) (rest := []) (s_X11_goesOn l D G b0 τ f33 tf33 u0 hu0 u1 i45 0 (iv_w (iv_k (x := 0) (k := 0) rfl) (by decide)) 1 (iv_w (iv_k (x := 1) (k := 1) rfl) (by decide)) u3 i62 k34) r65 (Cn := RX11) (T := TX11) (N := 32) rfl rfl mk_X11_goesOn w_1698 w_1700 w_57 w_1701 ⟨Nat.le_of_ble_eq_true rfl, Nat.le_of_ble_eq_true rfl⟩ rfl (Nat.le_of_ble_eq_true rfl) ⟨Nat.le_of_ble_eq_true rfl, Nat.le_of_ble_eq_true rfl⟩ rfl dX11_meet_35) h (fun f67 H locs p68 h => ?_)
        have n69 : (0 : Int32).toInt = 0 := rfl
        have n70 : (1 : Int32).toInt = 1 := rfl
        obtain ⟨tf67, ogf67, ⟨gg_f67, kpu0_14f67, ipu0_14f67, rpu0_14f67⟩, ngf67⟩ := p68
        have of67 : Fr [60, 67, 68, 60001, 60013, 60014, 60015] τ f f67 := Fr.tr of33 ogf67 (by decide) (by decide)
        refine lv_iconst (v := 0) hx hb dX11_meet_38 (by decide) ?_
        refine lv_istore (lv' := [(4, .int 0), (0, .ref u0), (1, .int u1), (2, .int u2), (3, .int u3)]) hx hb dX11_meet_39 hl (by decide) rfl (fun ls hl => ?_)
        exact L41 19601 ls f67 H locs 0 gg_f67 (by decide) (lv_cons hl 1 rfl (lv_cons hl 3 rfl (lv_cons hl 4 rfl (lv_cons hl 0 rfl (lv_nil hl))))) h tf67 of67 i55 i62 ⟨by decide, by decide⟩ ipu0_14f67 ngf67 kpu0_14f67
      · have c63 : r56.toInt = 0 := congrArg Int32.toInt c59
        have i64 : iv r56 0 0 := iv_Q c63 ir56 (iv_k (x := 0) (k := 0) rfl) (by decide)
        refine lv_iconst (v := -1) hx hb dX11_meet_28 (by decide) ?_
        exact u_iret C h hr hQ (⟨⟨by decide, by decide⟩, tf33, of33, k34⟩) (Nat.le_of_ble_eq_true rfl) (Nat.le_of_ble_eq_true rfl) dX11_meet_29
abbrev rm_s_X11_kernel : Room := { frames := 3, cells := 0, slots := 0, locals := 70 }
set_option maxRecDepth 100000 in
set_option maxHeartbeats 4000000 in
theorem s_X11_kernel (l : Launch) (D : va_G) (G : Nat → Nat) (b0 : Nat) (τ : Nat → Nat) (f : hM) (t : TI G 9 τ f) (u0 : Nat) (hu0 : τ u0 = 60) (u1 : Int32) (hu1 : iv u1 (-2147483648) 2147483647) (u2 : Int32) (hu2 : iv u2 (-2147483648) 2147483647) (u3 : Int32) (hu3 : iv u3 (-2147483648) 2147483647) : mI l yX11_kernel cX11_kernel 7 (.int) rm_s_X11_kernel D G b0 f [.ref u0, .int u1, .int u2, .int u3] (fun r f1 => iv r (-1000002) 1000002 ∧ TI G 9 τ f1 ∧ Fr [60, 60001] τ f f1) := by
  refine met2 (own := RX11) (by decide) rfl (Nat.le_of_ble_eq_true rfl) ?_
  intro p e s m args below meth c ls Q hQ C hr hini hl h
  have hl : lv_has ls 7 [(0, .ref u0), (1, .int u1), (2, .int u2), (3, .int u3)] := hl
  obtain ⟨hx, hb, hml, hown, hts, hE0, hlk⟩ := id C
  have o := Fr.rf [60, 60001] τ f
  have L29 : ∀ (n29 : Nat) (ls : Array Slot) (f_29 : hM) (H : Heap) (locs : List Loc) (v29_4 : Int64) (v29_6 : Int32), 8 - v29_6.toInt < (n29 : Int) → lv_has ls 7 [(0, .ref u0), (1, .int u1), (2, .int u2), (3, .int u3), (4, .long v29_4), (6, .int v29_6)] → hw D b0 s.heap f_29 H locs → TI G 9 τ f_29 → Fr [60, 60001] τ f f_29 → iv u1 0 7 → iv u2 1 1000002 → iv u3 1 1000002 → iv v29_6 0 8 → W p l e rm_s_X11_kernel s m args below meth c H locs 0 0 Q (F0 m 29 ls []) := by
    intro n29
    induction n29 with
    | zero => intro ls f_29 H locs v29_4 v29_6 hm29 hl h t_29 o_29 jv29_1 jv29_2 jv29_3 iv29_6; exact absurd hm29 (by omega)
    | succ n29 ih29 =>
      intro ls f_29 H locs v29_4 v29_6 hm29 hl h t_29 o_29 jv29_1 jv29_2 jv29_3 iv29_6
      refine lv_iload hx hb dX11_kernel_29 (lv_at hl 5 rfl) ?_
      refine lv_bipush (v := 8) hx hb dX11_kernel_31 (by decide) ?_
      refine lv_icmp_ge (tgt := 85) hx hb dX11_kernel_33 (by decide) (fun c1 => ?_) (fun c1 => ?_)
      · have c2 : 8 ≤ v29_6.toInt := Int32.le_iff_toInt_le.mp c1
        have i3 : iv v29_6 8 8 := iv_Er c2 (iv_k (x := 8) (k := 8) rfl) iv29_6 (by decide)
        refine lv_lload hx hb dX11_kernel_85 (lv_at hl 4 rfl) ?_
        refine lv_ldc2 (v := 1000003) hx hb hown (hts _ w_1719) dX11_kernel_87 ?_
        refine lv_lrem hx hb dX11_kernel_90 (by decide) (i_topl (lrem_iv (k := 1000003) rfl (by decide) (lo := -1000002) (hi := 1000002) (by decide)) (fun w6 ew6 iw6 => ?_))
        refine lv_l2i hx hb dX11_kernel_91 rfl (i_top (iv_l2i iw6 (by decide)) (fun z7 ez7 iz7 => ?_))
        exact u_iret C h hr hQ (⟨iz7, t_29, o_29⟩) (Nat.le_of_ble_eq_true rfl) (Nat.le_of_ble_eq_true rfl) dX11_kernel_92
      · have c4 : v29_6.toInt < 8 := Int32.lt_iff_toInt_lt.mp (iv_nle c1)
        have i5 : iv v29_6 0 7 := iv_Ll c4 iv29_6 (iv_k (x := 8) (k := 8) rfl) (by decide)
        refine lv_lload hx hb dX11_kernel_36 (lv_at hl 4 rfl) ?_
        refine lv_aload_n hx hb dX11_kernel_38 rfl (lv_at hl 0 rfl) ?_
        refine lv_iload_n hx hb dX11_kernel_39 rfl (lv_at hl 1 rfl) ?_
        refine lv_iload hx hb dX11_kernel_40 (lv_at hl 5 rfl) ?_
        obtain ⟨_, r8⟩ := t_rec t_29 hu0 (by decide) wf_60
        refine k_i (r_V C h hl (As := [.int u1, .int v29_6]) (rest := [.long v29_4]) (s_X11_weightOf l D G b0 τ f_29 t_29 u0 hu0 u1 jv29_1 v29_6 (iv_w i5 (by decide))) r8 (Cn := RX11) (T := TX11) (N := 32) rfl rfl mk_X11_weightOf w_1631 w_1633 w_52 w_1634 ⟨Nat.le_of_ble_eq_true rfl, Nat.le_of_ble_eq_true rfl⟩ rfl (Nat.le_of_ble_eq_true rfl) ⟨Nat.le_of_ble_eq_true rfl, Nat.le_of_ble_eq_true rfl⟩ rfl dX11_kernel_42) h (fun r9 f10 H locs p11 h => ?_)
        obtain ⟨ir9, tf10, ogf10⟩ := p11
        have egf10 := Fr.nil2 ogf10
        subst egf10
        refine lv_i2l hx hb dX11_kernel_45 rfl (i_topL ir9 (fun w12 ew12 mw12 iw12 => ?_))
        refine lv_iload_n hx hb dX11_kernel_46 rfl (lv_at hl 2 rfl) ?_
        refine lv_i2l hx hb dX11_kernel_47 rfl (i_topL jv29_2 (fun w13 ew13 mw13 iw13 => ?_))
        refine lv_iload hx hb dX11_kernel_48 (lv_at hl 5 rfl) ?_
        refine k_i (r_S C h hl (As := [.int v29_6]) (rest := [.long w13, .long w12, .long v29_4]) (s_X11_dx l D G b0 τ f_29 t_29 v29_6 (iv_w i5 (by decide))) mk_X11_dx w_1675 w_1676 w_1677 ⟨Nat.le_of_ble_eq_true rfl, Nat.le_of_ble_eq_true rfl⟩ rfl (Nat.le_of_ble_eq_true rfl) ⟨Nat.le_of_ble_eq_true rfl, Nat.le_of_ble_eq_true rfl⟩ rfl dX11_kernel_50) h (fun r14 f15 H locs p16 h => ?_)
        obtain ⟨ir14, tf15, ogf15⟩ := p16
        have egf15 := Fr.nil2 ogf15
        subst egf15
        refine k_l (r_S C h hl (As := [.long w13, .int r14]) (rest := [.long w12, .long v29_4]) (s_X11_by l D G b0 τ f_29 t_29 w13 r14 (iv_w ir14 (by decide))) mk_X11_by w_1872 w_1873 w_1874 ⟨Nat.le_of_ble_eq_true rfl, Nat.le_of_ble_eq_true rfl⟩ rfl (Nat.le_of_ble_eq_true rfl) ⟨Nat.le_of_ble_eq_true rfl, Nat.le_of_ble_eq_true rfl⟩ rfl dX11_kernel_53) h (fun r17 f18 H locs p19 h => ?_)
        obtain ⟨tf18, ogf18⟩ := p19
        have egf18 := Fr.nil2 ogf18
        subst egf18
        refine lv_lmul hx hb dX11_kernel_56 (lv_topl (fun w20 ew20 => ?_))
        refine lv_ldc2 (v := 1000003) hx hb hown (hts _ w_1719) dX11_kernel_57 ?_
        refine lv_lrem hx hb dX11_kernel_60 (by decide) (i_topl (lrem_iv (k := 1000003) rfl (by decide) (lo := -1000002) (hi := 1000002) (by decide)) (fun w21 ew21 iw21 => ?_))
        refine lv_iload_n hx hb dX11_kernel_61 rfl (lv_at hl 3 rfl) ?_
        refine lv_i2l hx hb dX11_kernel_62 rfl (i_topL jv29_3 (fun w22 ew22 mw22 iw22 => ?_))
        refine lv_iload hx hb dX11_kernel_63 (lv_at hl 5 rfl) ?_
        refine k_i (r_S C h hl (As := [.int v29_6]) (rest := [.long w22, .long w21, .long v29_4]) (s_X11_dy l D G b0 τ f_29 t_29 v29_6 (iv_w i5 (by decide))) mk_X11_dy w_1678 w_1679 w_1680 ⟨Nat.le_of_ble_eq_true rfl, Nat.le_of_ble_eq_true rfl⟩ rfl (Nat.le_of_ble_eq_true rfl) ⟨Nat.le_of_ble_eq_true rfl, Nat.le_of_ble_eq_true rfl⟩ rfl dX11_kernel_65) h (fun r23 f24 H locs p25 h => ?_)
        obtain ⟨ir23, tf24, ogf24⟩ := p25
        have egf24 := Fr.nil2 ogf24
        subst egf24
        refine k_l (r_S C h hl (As := [.long w22, .int r23]) (rest := [.long w21, .long v29_4]) (s_X11_by l D G b0 τ f_29 t_29 w22 r23 (iv_w ir23 (by decide))) mk_X11_by w_1872 w_1873 w_1874 ⟨Nat.le_of_ble_eq_true rfl, Nat.le_of_ble_eq_true rfl⟩ rfl (Nat.le_of_ble_eq_true rfl) ⟨Nat.le_of_ble_eq_true rfl, Nat.le_of_ble_eq_true rfl⟩ rfl dX11_kernel_68) h (fun r26 f27 H locs p28 h => ?_)
        obtain ⟨tf27, ogf27⟩ := p28
        have egf27 := Fr.nil2 ogf27
        subst egf27
        refine lv_lmul hx hb dX11_kernel_71 (lv_topl (fun w29 ew29 => ?_))
        refine lv_ldc2 (v := 1000003) hx hb hown (hts _ w_1719) dX11_kernel_72 ?_
        refine lv_lrem hx hb dX11_kernel_75 (by decide) (i_topl (lrem_iv (k := 1000003) rfl (by decide) (lo := -1000002) (hi := 1000002) (by decide)) (fun w30 ew30 iw30 => ?_))
        refine lv_ladd hx hb dX11_kernel_76 (lv_topl (fun w31 ew31 => ?_))
        refine lv_lstore (lv' := [(4, .long w31), (0, .ref u0), (1, .int u1), (2, .int u2), (3, .int u3), (6, .int v29_6)]) hx hb dX11_kernel_77 hl (by decide) rfl (fun ls hl => ?_)
        refine i_inc hx hb dX11_kernel_79 hl (k := 5) rfl i5 rfl (lo := 1) (hi := 8) (by decide) (by decide) (lv' := fun v => [(6, .int v), (4, .long w31), (0, .ref u0), (1, .int u1), (2, .int u2), (3, .int u3)]) (fun _ => rfl) (fun z32 ls ez32 mz32 iz32 hl => ?_)
        refine lv_goto (tgt := 29) hx hb dX11_kernel_82 (by decide) ?_
        exact ih29 ls f_29 H locs w31 z32 (show 8 - z32.toInt < _ by omega) (lv_cons hl 2 rfl (lv_cons hl 3 rfl (lv_cons hl 4 rfl (lv_cons hl 5 rfl (lv_cons hl 1 rfl (lv_cons hl 0 rfl (lv_nil hl))))))) h t_29 o_29 jv29_1 jv29_2 jv29_3 (iv_w iz32 (by decide))
  refine lv_aload_n hx hb dX11_kernel_0 rfl (lv_at hl 0 rfl) ?_
  refine lv_iconst (v := 0) hx hb dX11_kernel_1 (by decide) ?_
  refine t_put C h t o hu0 (by decide) (by decide) (by decide) wf_60 fw_60 (k := 0) rfl flw_X11_75 (Or.inr ⟨_, _, _, rfl, rfl⟩) (v := .int 0) rfl rfl ⟨_, rfl, ⟨by decide, by decide⟩⟩ dX11_kernel_2 (fun f33 H locs h tf33 of33 hq ha_ hn_ hk_ => ?_)
  have k34 := ha_
  refine lv_aload_n hx hb dX11_kernel_5 rfl (lv_at hl 0 rfl) ?_
  refine lv_iload_n hx hb dX11_kernel_6 rfl (lv_at hl 1 rfl) ?_
  obtain ⟨_, r35⟩ := t_rec tf33 hu0 (by decide) wf_60
  refine k_i (r_V C h hl (As := [.int u1]) (rest := []) (s_X11_isSet l D G b0 τ f33 tf33 u0 hu0 u1 hu1) r35 (Cn := RX11) (T := TX11) (N := 32) rfl rfl mk_X11_isSet w_1620 w_1622 w_51 w_1623 ⟨Nat.le_of_ble_eq_true rfl, Nat.le_of_ble_eq_true rfl⟩ rfl (Nat.le_of_ble_eq_true rfl) ⟨Nat.le_of_ble_eq_true rfl, Nat.le_of_ble_eq_true rfl⟩ rfl dX11_kernel_7) h (fun r36 f37 H locs p38 h => ?_)
  obtain ⟨ir36, tf37, ogf37, cnr36⟩ := p38
  have egf37 := Fr.nil2 ogf37
  subst egf37
  refine lv_if_eq (tgt := 21) hx hb dX11_kernel_10 (by decide) (fun c39 => ?_) (fun c39 => ?_)
  · have c40 : r36.toInt = 0 := congrArg Int32.toInt c39
    have i41 : iv r36 0 0 := iv_Q c40 ir36 (iv_k (x := 0) (k := 0) rfl) (by decide)
    refine lv_iconst (v := -1) hx hb dX11_kernel_21 (by decide) ?_
    exact u_iret C h hr hQ (⟨⟨by decide, by decide⟩, tf33, of33⟩) (Nat.le_of_ble_eq_true rfl) (Nat.le_of_ble_eq_true rfl) dX11_kernel_22
  · have c42 : r36.toInt ≠ 0 := fun z_ => c39 (Int32.toInt_inj.mp z_)
    have i43 : iv r36 1 1 := iv_Nl c42 ir36 (by decide)
    have i44 := cnr36 c42
    refine lv_iload_n hx hb dX11_kernel_13 rfl (lv_at hl 2 rfl) ?_
    refine lv_iload_n hx hb dX11_kernel_14 rfl (lv_at hl 3 rfl) ?_
    refine k_i (r_S C h hl (As := [.int u2, .int u3]) (rest := []) (s_X11_isField l D G b0 τ f33 tf33 u2 hu2 u3 hu3) mk_X11_isField w_1869 w_1870 w_1871 ⟨Nat.le_of_ble_eq_true rfl, Nat.le_of_ble_eq_true rfl⟩ rfl (Nat.le_of_ble_eq_true rfl) ⟨Nat.le_of_ble_eq_true rfl, Nat.le_of_ble_eq_true rfl⟩ rfl dX11_kernel_15) h (fun r45 f46 H locs p47 h => ?_)
    obtain ⟨ir45, tf46, ogf46, cnr45⟩ := p47
    have egf46 := Fr.nil2 ogf46
    subst egf46
    refine lv_if_ne (tgt := 23) hx hb dX11_kernel_18 (by decide) (fun c48 => ?_) (fun c48 => ?_)
    · have c49 : r45.toInt ≠ 0 := fun z_ => c48 (Int32.toInt_inj.mp z_)
      have i50 : iv r45 1 1 := iv_Nl c49 ir45 (by decide)
      obtain ⟨i51, i52⟩ := cnr45 c49
      refine lv_lconst (v := 0) hx hb dX11_kernel_23 (by decide) ?_
      refine lv_lstore (lv' := [(4, .long 0), (0, .ref u0), (1, .int u1), (2, .int u2), (3, .int u3)]) hx hb dX11_kernel_24 hl (by decide) rfl (fun ls hl => ?_)
      refine lv_iconst (v := 0) hx hb dX11_kernel_26 (by decide) ?_
      refine lv_istore (lv' := [(6, .int 0), (4, .long 0), (0, .ref u0), (1, .int u1), (2, .int u2), (3, .int u3)]) hx hb dX11_kernel_27 hl (by decide) rfl (fun ls hl => ?_)
      exact L29 9 ls f33 H locs 0 0 (by decide) (lv_cons hl 2 rfl (lv_cons hl 3 rfl (lv_cons hl 4 rfl (lv_cons hl 5 rfl (lv_cons hl 1 rfl (lv_cons hl 0 rfl (lv_nil hl))))))) h tf33 of33 i44 i51 i52 ⟨by decide, by decide⟩
    · have c53 : r45.toInt = 0 := congrArg Int32.toInt c48
      have i54 : iv r45 0 0 := iv_Q c53 ir45 (iv_k (x := 0) (k := 0) rfl) (by decide)
      refine lv_iconst (v := -1) hx hb dX11_kernel_21 (by decide) ?_
      exact u_iret C h hr hQ (⟨⟨by decide, by decide⟩, tf33, of33⟩) (Nat.le_of_ble_eq_true rfl) (Nat.le_of_ble_eq_true rfl) dX11_kernel_22
abbrev rm_s_X11_part : Room := { frames := 3, cells := 0, slots := 0, locals := 70 }
set_option maxRecDepth 100000 in
set_option maxHeartbeats 4000000 in
theorem s_X11_part (l : Launch) (D : va_G) (G : Nat → Nat) (b0 : Nat) (τ : Nat → Nat) (f : hM) (t : TI G 9 τ f) (u0 : Nat) (hu0 : τ u0 = 60) (u1 : Int32) (hu1 : iv u1 0 7) (u2 : Int32) (hu2 : iv u2 (-2147483648) 2147483647) (u3 : Int32) (hu3 : iv u3 (-2147483648) 2147483647) (u4 : Int64) : mL l yX11_part cX11_part 10 rm_s_X11_part D G b0 f [.ref u0, .int u1, .int u2, .int u3, .long u4] (fun r f1 => ivl r (-1000002) 1000002 ∧ TI G 9 τ f1 ∧ Fr [] τ f f1) := by
  refine met2 (own := RX11) (by decide) rfl (Nat.le_of_ble_eq_true rfl) ?_
  intro p e s m args below meth c ls Q hQ C hr hini hl h
  have hl : lv_has ls 10 [(0, .ref u0), (1, .int u1), (2, .int u2), (3, .int u3), (4, .long u4)] := hl
  obtain ⟨hx, hb, hml, hown, hts, hE0, hlk⟩ := id C
  have o := Fr.rf [] τ f
  have L6 : ∀ (n6 : Nat) (ls : Array Slot) (f_6 : hM) (H : Heap) (locs : List Loc) (v6_6 : Int64) (v6_8 : Int32), 8 - v6_8.toInt < (n6 : Int) → lv_has ls 10 [(0, .ref u0), (1, .int u1), (2, .int u2), (3, .int u3), (4, .long u4), (6, .long v6_6), (8, .int v6_8)] → hw D b0 s.heap f_6 H locs → TI G 9 τ f_6 → Fr [] τ f f_6 → iv v6_8 0 8 → W p l e rm_s_X11_part s m args below meth c H locs 0 0 Q (F0 m 6 ls []) := by
    intro n6
    induction n6 with
    | zero => intro ls f_6 H locs v6_6 v6_8 hm6 hl h t_6 o_6 iv6_8; exact absurd hm6 (by omega)
    | succ n6 ih6 =>
      intro ls f_6 H locs v6_6 v6_8 hm6 hl h t_6 o_6 iv6_8
      have L30 : ∀ (ls : Array Slot) (f_30 : hM) (H : Heap) (locs : List Loc) (y30_0 : Int32), lv_has ls 10 [(0, .ref u0), (1, .int u1), (2, .int u2), (3, .int u3), (4, .long u4), (6, .long v6_6), (8, .int v6_8)] → hw D b0 s.heap f_30 H locs → TI G 9 τ f_30 → Fr [] τ f f_30 → iv v6_8 0 7 → iv y30_0 (-1) 1 → W p l e rm_s_X11_part s m args below meth c H locs 0 0 Q (F0 m 30 ls [.int y30_0]) := by
        intro ls f_30 H locs y30_0 hl h t_30 o_30 jv30_8 iy30_0
        have L39 : ∀ (ls : Array Slot) (f_39 : hM) (H : Heap) (locs : List Loc) (y39_0 : Int32), lv_has ls 10 [(0, .ref u0), (1, .int u1), (2, .int u2), (3, .int u3), (4, .long u4), (6, .long v6_6), (8, .int v6_8)] → hw D b0 s.heap f_39 H locs → TI G 9 τ f_39 → Fr [] τ f f_39 → iv y39_0 0 1 → W p l e rm_s_X11_part s m args below meth c H locs 0 0 Q (F0 m 39 ls [.int y39_0]) := by
          intro ls f_39 H locs y39_0 hl h t_39 o_39 iy39_0
          refine lv_istore (lv' := [(9, .int y39_0), (0, .ref u0), (1, .int u1), (2, .int u2), (3, .int u3), (4, .long u4), (6, .long v6_6), (8, .int v6_8)]) hx hb dX11_part_39 hl (by decide) rfl (fun ls hl => ?_)
          refine lv_iload hx hb dX11_part_41 (lv_at hl 0 rfl) ?_
          refine lv_if_eq (tgt := 86) hx hb dX11_part_43 (by decide) (fun c1 => ?_) (fun c1 => ?_)
          · have c2 : y39_0.toInt = 0 := congrArg Int32.toInt c1
            have i3 : iv y39_0 0 0 := iv_Q c2 iy39_0 (iv_k (x := 0) (k := 0) rfl) (by decide)
            refine i_inc hx hb dX11_part_86 hl (k := 7) rfl jv30_8 rfl (lo := 1) (hi := 8) (by decide) (by decide) (lv' := fun v => [(8, .int v), (9, .int y39_0), (0, .ref u0), (1, .int u1), (2, .int u2), (3, .int u3), (4, .long u4), (6, .long v6_6)]) (fun _ => rfl) (fun z6 ls ez6 mz6 iz6 hl => ?_)
            refine lv_goto (tgt := 6) hx hb dX11_part_89 (by decide) ?_
            exact ih6 ls f_39 H locs v6_6 z6 (show 8 - z6.toInt < _ by omega) (lv_cons hl 2 rfl (lv_cons hl 3 rfl (lv_cons hl 4 rfl (lv_cons hl 5 rfl (lv_cons hl 6 rfl (lv_cons hl 7 rfl (lv_cons hl 0 rfl (lv_nil hl)))))))) h t_39 o_39 (iv_w iz6 (by decide))
          · have c4 : y39_0.toInt ≠ 0 := fun z_ => c1 (Int32.toInt_inj.mp z_)
            have i5 : iv y39_0 1 1 := iv_Nl c4 iy39_0 (by decide)
            refine lv_lload hx hb dX11_part_46 (lv_at hl 6 rfl) ?_
            refine lv_aload_n hx hb dX11_part_48 rfl (lv_at hl 1 rfl) ?_
            refine lv_iload_n hx hb dX11_part_49 rfl (lv_at hl 2 rfl) ?_
            refine lv_iload hx hb dX11_part_50 (lv_at hl 7 rfl) ?_
            obtain ⟨_, r7⟩ := t_rec t_39 hu0 (by decide) wf_60
            refine k_i (r_V C h hl (As := [.int u1, .int v6_8]) (rest := [.long v6_6]) (s_X11_weightOf l D G b0 τ f_39 t_39 u0 hu0 u1 hu1 v6_8 (iv_w jv30_8 (by decide))) r7 (Cn := RX11) (T := TX11) (N := 32) rfl rfl mk_X11_weightOf w_1631 w_1633 w_52 w_1634 ⟨Nat.le_of_ble_eq_true rfl, Nat.le_of_ble_eq_true rfl⟩ rfl (Nat.le_of_ble_eq_true rfl) ⟨Nat.le_of_ble_eq_true rfl, Nat.le_of_ble_eq_true rfl⟩ rfl dX11_part_52) h (fun r8 f9 H locs p10 h => ?_)
            obtain ⟨ir8, tf9, ogf9⟩ := p10
            have egf9 := Fr.nil2 ogf9
            subst egf9
            refine lv_i2l hx hb dX11_part_55 rfl (i_topL ir8 (fun w11 ew11 mw11 iw11 => ?_))
            refine lv_lload hx hb dX11_part_56 (lv_at hl 5 rfl) ?_
            refine lv_iload_n hx hb dX11_part_58 rfl (lv_at hl 3 rfl) ?_
            refine lv_if_ne (tgt := 70) hx hb dX11_part_59 (by decide) (fun c12 => ?_) (fun c12 => ?_)
            · have c13 : u2.toInt ≠ 0 := fun z_ => c12 (Int32.toInt_inj.mp z_)
              refine lv_iload hx hb dX11_part_70 (lv_at hl 7 rfl) ?_
              refine k_i (r_S C h hl (As := [.int v6_8]) (rest := [.long u4, .long w11, .long v6_6]) (s_X11_dx l D G b0 τ f_39 t_39 v6_8 (iv_w jv30_8 (by decide))) mk_X11_dx w_1675 w_1676 w_1677 ⟨Nat.le_of_ble_eq_true rfl, Nat.le_of_ble_eq_true rfl⟩ rfl (Nat.le_of_ble_eq_true rfl) ⟨Nat.le_of_ble_eq_true rfl, Nat.le_of_ble_eq_true rfl⟩ rfl dX11_part_72) h (fun r16 f17 H locs p18 h => ?_)
              obtain ⟨ir16, tf17, ogf17⟩ := p18
              have egf17 := Fr.nil2 ogf17
              subst egf17
              refine k_l (r_S C h hl (As := [.long u4, .int r16]) (rest := [.long w11, .long v6_6]) (s_X11_by l D G b0 τ f_39 t_39 u4 r16 (iv_w ir16 (by decide))) mk_X11_by w_1872 w_1873 w_1874 ⟨Nat.le_of_ble_eq_true rfl, Nat.le_of_ble_eq_true rfl⟩ rfl (Nat.le_of_ble_eq_true rfl) ⟨Nat.le_of_ble_eq_true rfl, Nat.le_of_ble_eq_true rfl⟩ rfl dX11_part_75) h (fun r19 f20 H locs p21 h => ?_)
              obtain ⟨tf20, ogf20⟩ := p21
              have egf20 := Fr.nil2 ogf20
              subst egf20
              refine lv_lmul hx hb dX11_part_78 (lv_topl (fun w22 ew22 => ?_))
              refine lv_ldc2 (v := 1000003) hx hb hown (hts _ w_1719) dX11_part_79 ?_
              refine lv_lrem hx hb dX11_part_82 (by decide) (i_topl (lrem_iv (k := 1000003) rfl (by decide) (lo := -1000002) (hi := 1000002) (by decide)) (fun w23 ew23 iw23 => ?_))
              refine lv_ladd hx hb dX11_part_83 (lv_topl (fun w24 ew24 => ?_))
              refine lv_lstore (lv' := [(6, .long w24), (9, .int y39_0), (0, .ref u0), (1, .int u1), (2, .int u2), (3, .int u3), (4, .long u4), (8, .int v6_8)]) hx hb dX11_part_84 hl (by decide) rfl (fun ls hl => ?_)
              refine i_inc hx hb dX11_part_86 hl (k := 7) rfl jv30_8 rfl (lo := 1) (hi := 8) (by decide) (by decide) (lv' := fun v => [(8, .int v), (6, .long w24), (9, .int y39_0), (0, .ref u0), (1, .int u1), (2, .int u2), (3, .int u3), (4, .long u4)]) (fun _ => rfl) (fun z25 ls ez25 mz25 iz25 hl => ?_)
              refine lv_goto (tgt := 6) hx hb dX11_part_89 (by decide) ?_
              exact ih6 ls f_39 H locs w24 z25 (show 8 - z25.toInt < _ by omega) (lv_cons hl 3 rfl (lv_cons hl 4 rfl (lv_cons hl 5 rfl (lv_cons hl 6 rfl (lv_cons hl 7 rfl (lv_cons hl 1 rfl (lv_cons hl 0 rfl (lv_nil hl)))))))) h t_39 o_39 (iv_w iz25 (by decide))
            · have c14 : u2.toInt = 0 := congrArg Int32.toInt c12
              have i15 : iv u2 0 0 := iv_Q c14 hu2 (iv_k (x := 0) (k := 0) rfl) (by decide)
              refine lv_iload hx hb dX11_part_62 (lv_at hl 7 rfl) ?_
              refine k_i (r_S C h hl (As := [.int v6_8]) (rest := [.long u4, .long w11, .long v6_6]) (s_X11_dy l D G b0 τ f_39 t_39 v6_8 (iv_w jv30_8 (by decide))) mk_X11_dy w_1678 w_1679 w_1680 ⟨Nat.le_of_ble_eq_true rfl, Nat.le_of_ble_eq_true rfl⟩ rfl (Nat.le_of_ble_eq_true rfl) ⟨Nat.le_of_ble_eq_true rfl, Nat.le_of_ble_eq_true rfl⟩ rfl dX11_part_64) h (fun r26 f27 H locs p28 h => ?_)
              obtain ⟨ir26, tf27, ogf27⟩ := p28
              have egf27 := Fr.nil2 ogf27
              subst egf27
              refine lv_goto (tgt := 75) hx hb dX11_part_67 (by decide) ?_
              refine k_l (r_S C h hl (As := [.long u4, .int r26]) (rest := [.long w11, .long v6_6]) (s_X11_by l D G b0 τ f_39 t_39 u4 r26 (iv_w ir26 (by decide))) mk_X11_by w_1872 w_1873 w_1874 ⟨Nat.le_of_ble_eq_true rfl, Nat.le_of_ble_eq_true rfl⟩ rfl (Nat.le_of_ble_eq_true rfl) ⟨Nat.le_of_ble_eq_true rfl, Nat.le_of_ble_eq_true rfl⟩ rfl dX11_part_75) h (fun r29 f30 H locs p31 h => ?_)
              obtain ⟨tf30, ogf30⟩ := p31
              have egf30 := Fr.nil2 ogf30
              subst egf30
              refine lv_lmul hx hb dX11_part_78 (lv_topl (fun w32 ew32 => ?_))
              refine lv_ldc2 (v := 1000003) hx hb hown (hts _ w_1719) dX11_part_79 ?_
              refine lv_lrem hx hb dX11_part_82 (by decide) (i_topl (lrem_iv (k := 1000003) rfl (by decide) (lo := -1000002) (hi := 1000002) (by decide)) (fun w33 ew33 iw33 => ?_))
              refine lv_ladd hx hb dX11_part_83 (lv_topl (fun w34 ew34 => ?_))
              refine lv_lstore (lv' := [(6, .long w34), (9, .int y39_0), (0, .ref u0), (1, .int u1), (2, .int u2), (3, .int u3), (4, .long u4), (8, .int v6_8)]) hx hb dX11_part_84 hl (by decide) rfl (fun ls hl => ?_)
              refine i_inc hx hb dX11_part_86 hl (k := 7) rfl jv30_8 rfl (lo := 1) (hi := 8) (by decide) (by decide) (lv' := fun v => [(8, .int v), (6, .long w34), (9, .int y39_0), (0, .ref u0), (1, .int u1), (2, .int u2), (3, .int u3), (4, .long u4)]) (fun _ => rfl) (fun z35 ls ez35 mz35 iz35 hl => ?_)
              refine lv_goto (tgt := 6) hx hb dX11_part_89 (by decide) ?_
              exact ih6 ls f_39 H locs w34 z35 (show 8 - z35.toInt < _ by omega) (lv_cons hl 3 rfl (lv_cons hl 4 rfl (lv_cons hl 5 rfl (lv_cons hl 6 rfl (lv_cons hl 7 rfl (lv_cons hl 1 rfl (lv_cons hl 0 rfl (lv_nil hl)))))))) h t_39 o_39 (iv_w iz35 (by decide))
        refine lv_iload_n hx hb dX11_part_30 rfl (lv_at hl 3 rfl) ?_
        refine lv_icmp_ne (tgt := 38) hx hb dX11_part_31 (by decide) (fun c36 => ?_) (fun c36 => ?_)
        · have c37 : y30_0.toInt ≠ u3.toInt := fun z_ => c36 (Int32.toInt_inj.mp z_)
          refine lv_iconst (v := 0) hx hb dX11_part_38 (by decide) ?_
          exact L39 ls f_30 H locs 0 (lv_cons hl 0 rfl (lv_cons hl 1 rfl (lv_cons hl 2 rfl (lv_cons hl 3 rfl (lv_cons hl 4 rfl (lv_cons hl 5 rfl (lv_cons hl 6 rfl (lv_nil hl)))))))) h t_30 o_30 ⟨by decide, by decide⟩
        · have c38 : y30_0.toInt = u3.toInt := congrArg Int32.toInt c36
          have i39 : iv u3 (-1) 1 := iv_Q c38.symm hu3 iy30_0 (by decide)
          refine lv_iconst (v := 1) hx hb dX11_part_34 (by decide) ?_
          refine lv_goto (tgt := 39) hx hb dX11_part_35 (by decide) ?_
          exact L39 ls f_30 H locs 1 (lv_cons hl 0 rfl (lv_cons hl 1 rfl (lv_cons hl 2 rfl (lv_cons hl 3 rfl (lv_cons hl 4 rfl (lv_cons hl 5 rfl (lv_cons hl 6 rfl (lv_nil hl)))))))) h t_30 o_30 ⟨by decide, by decide⟩
      refine lv_iload hx hb dX11_part_6 (lv_at hl 6 rfl) ?_
      refine lv_bipush (v := 8) hx hb dX11_part_8 (by decide) ?_
      refine lv_icmp_ge (tgt := 92) hx hb dX11_part_10 (by decide) (fun c40 => ?_) (fun c40 => ?_)
      · have c41 : 8 ≤ v6_8.toInt := Int32.le_iff_toInt_le.mp c40
        have i42 : iv v6_8 8 8 := iv_Er c41 (iv_k (x := 8) (k := 8) rfl) iv6_8 (by decide)
        refine lv_lload hx hb dX11_part_92 (lv_at hl 5 rfl) ?_
        refine lv_ldc2 (v := 1000003) hx hb hown (hts _ w_1719) dX11_part_94 ?_
        refine lv_lrem hx hb dX11_part_97 (by decide) (i_topl (lrem_iv (k := 1000003) rfl (by decide) (lo := -1000002) (hi := 1000002) (by decide)) (fun w45 ew45 iw45 => ?_))
        exact u_lret C h hr hQ (⟨(ivl_w iw45 (by decide)), t_6, o_6⟩) (Nat.le_of_ble_eq_true rfl) (Nat.le_of_ble_eq_true rfl) dX11_part_98
      · have c43 : v6_8.toInt < 8 := Int32.lt_iff_toInt_lt.mp (iv_nle c40)
        have i44 : iv v6_8 0 7 := iv_Ll c43 iv6_8 (iv_k (x := 8) (k := 8) rfl) (by decide)
        refine lv_iload_n hx hb dX11_part_13 rfl (lv_at hl 2 rfl) ?_
        refine lv_if_ne (tgt := 25) hx hb dX11_part_14 (by decide) (fun c46 => ?_) (fun c46 => ?_)
        · have c47 : u2.toInt ≠ 0 := fun z_ => c46 (Int32.toInt_inj.mp z_)
          refine lv_iload hx hb dX11_part_25 (lv_at hl 6 rfl) ?_
          refine k_i (r_S C h hl (As := [.int v6_8]) (rest := []) (s_X11_dy l D G b0 τ f_6 t_6 v6_8 (iv_w i44 (by decide))) mk_X11_dy w_1678 w_1679 w_1680 ⟨Nat.le_of_ble_eq_true rfl, Nat.le_of_ble_eq_true rfl⟩ rfl (Nat.le_of_ble_eq_true rfl) ⟨Nat.le_of_ble_eq_true rfl, Nat.le_of_ble_eq_true rfl⟩ rfl dX11_part_27) h (fun r50 f51 H locs p52 h => ?_)
          obtain ⟨ir50, tf51, ogf51⟩ := p52
          have egf51 := Fr.nil2 ogf51
          subst egf51
          exact L30 ls f_6 H locs r50 (lv_cons hl 0 rfl (lv_cons hl 1 rfl (lv_cons hl 2 rfl (lv_cons hl 3 rfl (lv_cons hl 4 rfl (lv_cons hl 5 rfl (lv_cons hl 6 rfl (lv_nil hl)))))))) h t_6 o_6 i44 ir50
        · have c48 : u2.toInt = 0 := congrArg Int32.toInt c46
          have i49 : iv u2 0 0 := iv_Q c48 hu2 (iv_k (x := 0) (k := 0) rfl) (by decide)
          refine lv_iload hx hb dX11_part_17 (lv_at hl 6 rfl) ?_
          refine k_i (r_S C h hl (As := [.int v6_8]) (rest := []) (s_X11_dx l D G b0 τ f_6 t_6 v6_8 (iv_w i44 (by decide))) mk_X11_dx w_1675 w_1676 w_1677 ⟨Nat.le_of_ble_eq_true rfl, Nat.le_of_ble_eq_true rfl⟩ rfl (Nat.le_of_ble_eq_true rfl) ⟨Nat.le_of_ble_eq_true rfl, Nat.le_of_ble_eq_true rfl⟩ rfl dX11_part_19) h (fun r53 f54 H locs p55 h => ?_)
          obtain ⟨ir53, tf54, ogf54⟩ := p55
          have egf54 := Fr.nil2 ogf54
          subst egf54
          refine lv_goto (tgt := 30) hx hb dX11_part_22 (by decide) ?_
          exact L30 ls f_6 H locs r53 (lv_cons hl 0 rfl (lv_cons hl 1 rfl (lv_cons hl 2 rfl (lv_cons hl 3 rfl (lv_cons hl 4 rfl (lv_cons hl 5 rfl (lv_cons hl 6 rfl (lv_nil hl)))))))) h t_6 o_6 i44 ir53
  refine lv_lconst (v := 0) hx hb dX11_part_0 (by decide) ?_
  refine lv_lstore (lv' := [(6, .long 0), (0, .ref u0), (1, .int u1), (2, .int u2), (3, .int u3), (4, .long u4)]) hx hb dX11_part_1 hl (by decide) rfl (fun ls hl => ?_)
  refine lv_iconst (v := 0) hx hb dX11_part_3 (by decide) ?_
  refine lv_istore (lv' := [(8, .int 0), (6, .long 0), (0, .ref u0), (1, .int u1), (2, .int u2), (3, .int u3), (4, .long u4)]) hx hb dX11_part_4 hl (by decide) rfl (fun ls hl => ?_)
  exact L6 9 ls f s.heap [] 0 0 (by decide) (lv_cons hl 2 rfl (lv_cons hl 3 rfl (lv_cons hl 4 rfl (lv_cons hl 5 rfl (lv_cons hl 6 rfl (lv_cons hl 1 rfl (lv_cons hl 0 rfl (lv_nil hl)))))))) h t o ⟨by decide, by decide⟩
abbrev rm_s_X11_turns : Room := { frames := 4, cells := 0, slots := 0, locals := 99 }
set_option maxRecDepth 100000 in
set_option maxHeartbeats 4000000 in
theorem s_X11_turns (l : Launch) (D : va_G) (G : Nat → Nat) (b0 : Nat) (τ : Nat → Nat) (f : hM) (t : TI G 9 τ f) (u0 : Nat) (hu0 : τ u0 = 60) (u1 : Int32) (hu1 : iv u1 0 7) (u2 : Int32) (hu2 : iv u2 (-2147483648) 2147483647) (u3 : Int32) (hu3 : iv u3 (-2147483648) 2147483647) (u4 : Int32) (hu4 : iv u4 (-2147483648) 2147483647) : mI l yX11_turns cX11_turns 11 (.int) rm_s_X11_turns D G b0 f [.ref u0, .int u1, .int u2, .int u3, .int u4] (fun r f1 => iv r (-1000002) 1000002 ∧ TI G 9 τ f1 ∧ Fr [] τ f f1) := by
  refine met2 (own := RX11) (by decide) rfl (Nat.le_of_ble_eq_true rfl) ?_
  intro p e s m args below meth c ls Q hQ C hr hini hl h
  have hl : lv_has ls 11 [(0, .ref u0), (1, .int u1), (2, .int u2), (3, .int u3), (4, .int u4)] := hl
  obtain ⟨hx, hb, hml, hown, hts, hE0, hlk⟩ := id C
  have o := Fr.rf [] τ f
  have L12 : ∀ (ls : Array Slot) (f_12 : hM) (H : Heap) (locs : List Loc) (y12_0 : Int64), lv_has ls 11 [(0, .ref u0), (1, .int u1), (2, .int u2), (3, .int u3), (4, .int u4)] → hw D b0 s.heap f_12 H locs → TI G 9 τ f_12 → Fr [] τ f f_12 → ivl y12_0 (-2147483648) 2147483647 → W p l e rm_s_X11_turns s m args below meth c H locs 0 0 Q (F0 m 12 ls [.long y12_0]) := by
    intro ls f_12 H locs y12_0 hl h t_12 o_12 iy12_0
    refine lv_lstore (lv' := [(5, .long y12_0), (0, .ref u0), (1, .int u1), (2, .int u2), (3, .int u3), (4, .int u4)]) hx hb dX11_turns_12 hl (by decide) rfl (fun ls hl => ?_)
    refine lv_aload_n hx hb dX11_turns_14 rfl (lv_at hl 1 rfl) ?_
    refine lv_iload_n hx hb dX11_turns_15 rfl (lv_at hl 2 rfl) ?_
    refine lv_iload hx hb dX11_turns_16 (lv_at hl 5 rfl) ?_
    refine lv_iconst (v := 1) hx hb dX11_turns_18 (by decide) ?_
    refine lv_lload hx hb dX11_turns_19 (lv_at hl 0 rfl) ?_
    obtain ⟨_, r1⟩ := t_rec t_12 hu0 (by decide) wf_60
    refine k_l (r_V C h hl (As := [.int u1, .int u4, .int 1, .long y12_0]) (rest := []) (s_X11_part l D G b0 τ f_12 t_12 u0 hu0 u1 hu1 u4 hu4 1 (iv_w (iv_k (x := 1) (k := 1) rfl) (by decide)) y12_0) r1 (Cn := RX11) (T := TX11) (N := 32) rfl rfl mk_X11_part w_1883 w_1885 w_72 w_1886 ⟨Nat.le_of_ble_eq_true rfl, Nat.le_of_ble_eq_true rfl⟩ rfl (Nat.le_of_ble_eq_true rfl) ⟨Nat.le_of_ble_eq_true rfl, Nat.le_of_ble_eq_true rfl⟩ rfl dX11_turns_21) h (fun r2 f3 H locs p4 h => ?_)
    obtain ⟨ir2, tf3, ogf3⟩ := p4
    have egf3 := Fr.nil2 ogf3
    subst egf3
    refine lv_lstore (lv' := [(7, .long r2), (5, .long y12_0), (0, .ref u0), (1, .int u1), (2, .int u2), (3, .int u3), (4, .int u4)]) hx hb dX11_turns_24 hl (by decide) rfl (fun ls hl => ?_)
    refine lv_aload_n hx hb dX11_turns_26 rfl (lv_at hl 2 rfl) ?_
    refine lv_iload_n hx hb dX11_turns_27 rfl (lv_at hl 3 rfl) ?_
    refine lv_iload hx hb dX11_turns_28 (lv_at hl 6 rfl) ?_
    refine lv_iconst (v := -1) hx hb dX11_turns_30 (by decide) ?_
    refine lv_lload hx hb dX11_turns_31 (lv_at hl 1 rfl) ?_
    obtain ⟨_, r5⟩ := t_rec t_12 hu0 (by decide) wf_60
    refine k_l (r_V C h hl (As := [.int u1, .int u4, .int (-1), .long y12_0]) (rest := []) (s_X11_part l D G b0 τ f_12 t_12 u0 hu0 u1 hu1 u4 hu4 (-1) (iv_w (iv_k (x := (-1)) (k := (-1)) rfl) (by decide)) y12_0) r5 (Cn := RX11) (T := TX11) (N := 32) rfl rfl mk_X11_part w_1883 w_1885 w_72 w_1886 ⟨Nat.le_of_ble_eq_true rfl, Nat.le_of_ble_eq_true rfl⟩ rfl (Nat.le_of_ble_eq_true rfl) ⟨Nat.le_of_ble_eq_true rfl, Nat.le_of_ble_eq_true rfl⟩ rfl dX11_turns_33) h (fun r6 f7 H locs p8 h => ?_)
    obtain ⟨ir6, tf7, ogf7⟩ := p8
    have egf7 := Fr.nil2 ogf7
    subst egf7
    refine lv_lstore (lv' := [(9, .long r6), (7, .long r2), (5, .long y12_0), (0, .ref u0), (1, .int u1), (2, .int u2), (3, .int u3), (4, .int u4)]) hx hb dX11_turns_36 hl (by decide) rfl (fun ls hl => ?_)
    refine lv_lload hx hb dX11_turns_38 (lv_at hl 1 rfl) ?_
    refine lv_lconst (v := 0) hx hb dX11_turns_40 (by decide) ?_
    refine W.lcmp hx hb dX11_turns_41 (i_topc (fun z9 ez9 mz9 iz9 => ?_))
    refine lv_if_eq (tgt := 52) hx hb dX11_turns_42 (by decide) (fun c10 => ?_) (fun c10 => ?_)
    · have c11 : z9.toInt = 0 := congrArg Int32.toInt c10
      have i12 : iv z9 0 0 := iv_Q c11 iz9 (iv_k (x := 0) (k := 0) rfl) (by decide)
      refine lv_iconst (v := -1) hx hb dX11_turns_52 (by decide) ?_
      exact u_iret C h hr hQ (⟨⟨by decide, by decide⟩, t_12, o_12⟩) (Nat.le_of_ble_eq_true rfl) (Nat.le_of_ble_eq_true rfl) dX11_turns_53
    · have c13 : z9.toInt ≠ 0 := fun z_ => c10 (Int32.toInt_inj.mp z_)
      refine lv_lload hx hb dX11_turns_45 (lv_at hl 0 rfl) ?_
      refine lv_lconst (v := 0) hx hb dX11_turns_47 (by decide) ?_
      refine W.lcmp hx hb dX11_turns_48 (i_topc (fun z14 ez14 mz14 iz14 => ?_))
      refine lv_if_ne (tgt := 54) hx hb dX11_turns_49 (by decide) (fun c15 => ?_) (fun c15 => ?_)
      · have c16 : z14.toInt ≠ 0 := fun z_ => c15 (Int32.toInt_inj.mp z_)
        refine lv_lload hx hb dX11_turns_54 (lv_at hl 0 rfl) ?_
        refine lv_lload hx hb dX11_turns_56 (lv_at hl 1 rfl) ?_
        refine lv_iload hx hb dX11_turns_58 (lv_at hl 7 rfl) ?_
        refine lv_if_ne (tgt := 67) hx hb dX11_turns_60 (by decide) (fun c19 => ?_) (fun c19 => ?_)
        · have c20 : u4.toInt ≠ 0 := fun z_ => c19 (Int32.toInt_inj.mp z_)
          refine lv_iload_n hx hb dX11_turns_67 rfl (lv_at hl 6 rfl) ?_
          refine lv_i2l hx hb dX11_turns_68 rfl (i_topL hu3 (fun w23 ew23 mw23 iw23 => ?_))
          refine lv_lmul hx hb dX11_turns_69 (lv_topl (fun w24 ew24 => ?_))
          refine lv_ldc2 (v := 1000003) hx hb hown (hts _ w_1719) dX11_turns_70 ?_
          refine lv_lrem hx hb dX11_turns_73 (by decide) (i_topl (lrem_iv (k := 1000003) rfl (by decide) (lo := -1000002) (hi := 1000002) (by decide)) (fun w25 ew25 iw25 => ?_))
          refine k_l (r_S C h hl (As := [.long w25]) (rest := [.long r6]) (s_X11_inverse l D G b0 τ f_12 t_12 w25) mk_X11_inverse w_1800 w_1801 w_1802 ⟨Nat.le_of_ble_eq_true rfl, Nat.le_of_ble_eq_true rfl⟩ rfl (Nat.le_of_ble_eq_true rfl) ⟨Nat.le_of_ble_eq_true rfl, Nat.le_of_ble_eq_true rfl⟩ rfl dX11_turns_74) h (fun r26 f27 H locs p28 h => ?_)
          obtain ⟨ir26, tf27, ogf27⟩ := p28
          have egf27 := Fr.nil2 ogf27
          subst egf27
          refine lv_lmul hx hb dX11_turns_77 (lv_topl (fun w29 ew29 => ?_))
          refine lv_ldc2 (v := 1000003) hx hb hown (hts _ w_1719) dX11_turns_78 ?_
          refine lv_lrem hx hb dX11_turns_81 (by decide) (i_topl (lrem_iv (k := 1000003) rfl (by decide) (lo := -1000002) (hi := 1000002) (by decide)) (fun w30 ew30 iw30 => ?_))
          refine lv_l2i hx hb dX11_turns_82 rfl (i_top (iv_l2i iw30 (by decide)) (fun z31 ez31 iz31 => ?_))
          exact u_iret C h hr hQ (⟨iz31, t_12, o_12⟩) (Nat.le_of_ble_eq_true rfl) (Nat.le_of_ble_eq_true rfl) dX11_turns_83
        · have c21 : u4.toInt = 0 := congrArg Int32.toInt c19
          have i22 : iv u4 0 0 := iv_Q c21 hu4 (iv_k (x := 0) (k := 0) rfl) (by decide)
          refine lv_iload_n hx hb dX11_turns_63 rfl (lv_at hl 5 rfl) ?_
          refine lv_goto (tgt := 68) hx hb dX11_turns_64 (by decide) ?_
          refine lv_i2l hx hb dX11_turns_68 rfl (i_topL hu2 (fun w32 ew32 mw32 iw32 => ?_))
          refine lv_lmul hx hb dX11_turns_69 (lv_topl (fun w33 ew33 => ?_))
          refine lv_ldc2 (v := 1000003) hx hb hown (hts _ w_1719) dX11_turns_70 ?_
          refine lv_lrem hx hb dX11_turns_73 (by decide) (i_topl (lrem_iv (k := 1000003) rfl (by decide) (lo := -1000002) (hi := 1000002) (by decide)) (fun w34 ew34 iw34 => ?_))
          refine k_l (r_S C h hl (As := [.long w34]) (rest := [.long r6]) (s_X11_inverse l D G b0 τ f_12 t_12 w34) mk_X11_inverse w_1800 w_1801 w_1802 ⟨Nat.le_of_ble_eq_true rfl, Nat.le_of_ble_eq_true rfl⟩ rfl (Nat.le_of_ble_eq_true rfl) ⟨Nat.le_of_ble_eq_true rfl, Nat.le_of_ble_eq_true rfl⟩ rfl dX11_turns_74) h (fun r35 f36 H locs p37 h => ?_)
          obtain ⟨ir35, tf36, ogf36⟩ := p37
          have egf36 := Fr.nil2 ogf36
          subst egf36
          refine lv_lmul hx hb dX11_turns_77 (lv_topl (fun w38 ew38 => ?_))
          refine lv_ldc2 (v := 1000003) hx hb hown (hts _ w_1719) dX11_turns_78 ?_
          refine lv_lrem hx hb dX11_turns_81 (by decide) (i_topl (lrem_iv (k := 1000003) rfl (by decide) (lo := -1000002) (hi := 1000002) (by decide)) (fun w39 ew39 iw39 => ?_))
          refine lv_l2i hx hb dX11_turns_82 rfl (i_top (iv_l2i iw39 (by decide)) (fun z40 ez40 iz40 => ?_))
          exact u_iret C h hr hQ (⟨iz40, t_12, o_12⟩) (Nat.le_of_ble_eq_true rfl) (Nat.le_of_ble_eq_true rfl) dX11_turns_83
      · have c17 : z14.toInt = 0 := congrArg Int32.toInt c15
        have i18 : iv z14 0 0 := iv_Q c17 iz14 (iv_k (x := 0) (k := 0) rfl) (by decide)
        refine lv_iconst (v := -1) hx hb dX11_turns_52 (by decide) ?_
        exact u_iret C h hr hQ (⟨⟨by decide, by decide⟩, t_12, o_12⟩) (Nat.le_of_ble_eq_true rfl) (Nat.le_of_ble_eq_true rfl) dX11_turns_53
  refine lv_iload hx hb dX11_turns_0 (lv_at hl 4 rfl) ?_
  refine lv_if_ne (tgt := 10) hx hb dX11_turns_2 (by decide) (fun c41 => ?_) (fun c41 => ?_)
  · have c42 : u4.toInt ≠ 0 := fun z_ => c41 (Int32.toInt_inj.mp z_)
    refine lv_iload_n hx hb dX11_turns_10 rfl (lv_at hl 2 rfl) ?_
    refine lv_i2l hx hb dX11_turns_11 rfl (i_topL hu2 (fun w45 ew45 mw45 iw45 => ?_))
    exact L12 ls f s.heap [] w45 (lv_cons hl 0 rfl (lv_cons hl 1 rfl (lv_cons hl 2 rfl (lv_cons hl 3 rfl (lv_cons hl 4 rfl (lv_nil hl)))))) h t o (ivl_w iw45 (by decide))
  · have c43 : u4.toInt = 0 := congrArg Int32.toInt c41
    have i44 : iv u4 0 0 := iv_Q c43 hu4 (iv_k (x := 0) (k := 0) rfl) (by decide)
    refine lv_iload_n hx hb dX11_turns_5 rfl (lv_at hl 3 rfl) ?_
    refine lv_i2l hx hb dX11_turns_6 rfl (i_topL hu3 (fun w46 ew46 mw46 iw46 => ?_))
    refine lv_goto (tgt := 12) hx hb dX11_turns_7 (by decide) ?_
    exact L12 ls f s.heap [] w46 (lv_cons hl 0 rfl (lv_cons hl 1 rfl (lv_cons hl 2 rfl (lv_cons hl 3 rfl (lv_cons hl 4 rfl (lv_nil hl)))))) h t o (ivl_w iw46 (by decide))
abbrev rm_s_X11_turned : Room := { frames := 5, cells := 0, slots := 0, locals := 129 }
set_option maxRecDepth 100000 in
set_option maxHeartbeats 4000000 in
theorem s_X11_turned (l : Launch) (D : va_G) (G : Nat → Nat) (b0 : Nat) (τ : Nat → Nat) (f : hM) (t : TI G 9 τ f) (u0 : Nat) (hu0 : τ u0 = 60) (u1 : Int32) (hu1 : iv u1 (-2147483648) 2147483647) (u2 : Int32) (hu2 : iv u2 (-2147483648) 2147483647) (u3 : Int32) (hu3 : iv u3 (-2147483648) 2147483647) (u4 : Int32) (hu4 : iv u4 (-2147483648) 2147483647) : mI l yX11_turned cX11_turned 5 (.int) rm_s_X11_turned D G b0 f [.ref u0, .int u1, .int u2, .int u3, .int u4] (fun r f1 => iv r (-1000002) 1000002 ∧ TI G 9 τ f1 ∧ Fr [60, 60001] τ f f1) := by
  refine met2 (own := RX11) (by decide) rfl (Nat.le_of_ble_eq_true rfl) ?_
  intro p e s m args below meth c ls Q hQ C hr hini hl h
  have hl : lv_has ls 5 [(0, .ref u0), (1, .int u1), (2, .int u2), (3, .int u3), (4, .int u4)] := hl
  obtain ⟨hx, hb, hml, hown, hts, hE0, hlk⟩ := id C
  have o := Fr.rf [60, 60001] τ f
  refine lv_aload_n hx hb dX11_turned_0 rfl (lv_at hl 0 rfl) ?_
  refine lv_iconst (v := 0) hx hb dX11_turned_1 (by decide) ?_
  refine t_put C h t o hu0 (by decide) (by decide) (by decide) wf_60 fw_60 (k := 0) rfl flw_X11_75 (Or.inr ⟨_, _, _, rfl, rfl⟩) (v := .int 0) rfl rfl ⟨_, rfl, ⟨by decide, by decide⟩⟩ dX11_turned_2 (fun f1 H locs h tf1 of1 hq ha_ hn_ hk_ => ?_)
  have k2 := ha_
  refine lv_aload_n hx hb dX11_turned_5 rfl (lv_at hl 0 rfl) ?_
  refine lv_iload_n hx hb dX11_turned_6 rfl (lv_at hl 1 rfl) ?_
  obtain ⟨_, r3⟩ := t_rec tf1 hu0 (by decide) wf_60
  refine k_i (r_V C h hl (As := [.int u1]) (rest := []) (s_X11_isSet l D G b0 τ f1 tf1 u0 hu0 u1 hu1) r3 (Cn := RX11) (T := TX11) (N := 32) rfl rfl mk_X11_isSet w_1620 w_1622 w_51 w_1623 ⟨Nat.le_of_ble_eq_true rfl, Nat.le_of_ble_eq_true rfl⟩ rfl (Nat.le_of_ble_eq_true rfl) ⟨Nat.le_of_ble_eq_true rfl, Nat.le_of_ble_eq_true rfl⟩ rfl dX11_turned_7) h (fun r4 f5 H locs p6 h => ?_)
  obtain ⟨ir4, tf5, ogf5, cnr4⟩ := p6
  have egf5 := Fr.nil2 ogf5
  subst egf5
  refine lv_if_eq (tgt := 44) hx hb dX11_turned_10 (by decide) (fun c7 => ?_) (fun c7 => ?_)
  · have c8 : r4.toInt = 0 := congrArg Int32.toInt c7
    have i9 : iv r4 0 0 := iv_Q c8 ir4 (iv_k (x := 0) (k := 0) rfl) (by decide)
    refine lv_iconst (v := -1) hx hb dX11_turned_44 (by decide) ?_
    exact u_iret C h hr hQ (⟨⟨by decide, by decide⟩, tf1, of1⟩) (Nat.le_of_ble_eq_true rfl) (Nat.le_of_ble_eq_true rfl) dX11_turned_45
  · have c10 : r4.toInt ≠ 0 := fun z_ => c7 (Int32.toInt_inj.mp z_)
    have i11 : iv r4 1 1 := iv_Nl c10 ir4 (by decide)
    have i12 := cnr4 c10
    refine lv_iload_n hx hb dX11_turned_13 rfl (lv_at hl 2 rfl) ?_
    refine lv_iload_n hx hb dX11_turned_14 rfl (lv_at hl 3 rfl) ?_
    refine k_i (r_S C h hl (As := [.int u2, .int u3]) (rest := []) (s_X11_isField l D G b0 τ f1 tf1 u2 hu2 u3 hu3) mk_X11_isField w_1869 w_1870 w_1871 ⟨Nat.le_of_ble_eq_true rfl, Nat.le_of_ble_eq_true rfl⟩ rfl (Nat.le_of_ble_eq_true rfl) ⟨Nat.le_of_ble_eq_true rfl, Nat.le_of_ble_eq_true rfl⟩ rfl dX11_turned_15) h (fun r13 f14 H locs p15 h => ?_)
    obtain ⟨ir13, tf14, ogf14, cnr13⟩ := p15
    have egf14 := Fr.nil2 ogf14
    subst egf14
    refine lv_if_eq (tgt := 44) hx hb dX11_turned_18 (by decide) (fun c16 => ?_) (fun c16 => ?_)
    · have c17 : r13.toInt = 0 := congrArg Int32.toInt c16
      have i18 : iv r13 0 0 := iv_Q c17 ir13 (iv_k (x := 0) (k := 0) rfl) (by decide)
      refine lv_iconst (v := -1) hx hb dX11_turned_44 (by decide) ?_
      exact u_iret C h hr hQ (⟨⟨by decide, by decide⟩, tf1, of1⟩) (Nat.le_of_ble_eq_true rfl) (Nat.le_of_ble_eq_true rfl) dX11_turned_45
    · have c19 : r13.toInt ≠ 0 := fun z_ => c16 (Int32.toInt_inj.mp z_)
      have i20 : iv r13 1 1 := iv_Nl c19 ir13 (by decide)
      obtain ⟨i21, i22⟩ := cnr13 c19
      refine lv_iload hx hb dX11_turned_21 (lv_at hl 4 rfl) ?_
      refine lv_i2l hx hb dX11_turned_23 rfl (i_topL hu4 (fun w23 ew23 mw23 iw23 => ?_))
      refine lv_lconst (v := 0) hx hb dX11_turned_24 (by decide) ?_
      refine lv_lconst (v := 1) hx hb dX11_turned_25 (by decide) ?_
      refine k_i (r_S C h hl (As := [.long w23, .long 0, .long 1]) (rest := []) (s_X11_isIn l D G b0 τ f1 tf1 w23 0 1) mk_X11_isIn w_1624 w_1625 w_1626 ⟨Nat.le_of_ble_eq_true rfl, Nat.le_of_ble_eq_true rfl⟩ rfl (Nat.le_of_ble_eq_true rfl) ⟨Nat.le_of_ble_eq_true rfl, Nat.le_of_ble_eq_true rfl⟩ rfl dX11_turned_26) h (fun r24 f25 H locs p26 h => ?_)
      have n27 : (0 : Int64).toInt = 0 := rfl
      have n28 : (1 : Int64).toInt = 1 := rfl
      obtain ⟨ir24, tf25, ogf25, cnr24⟩ := p26
      have egf25 := Fr.nil2 ogf25
      subst egf25
      refine lv_if_eq (tgt := 44) hx hb dX11_turned_29 (by decide) (fun c29 => ?_) (fun c29 => ?_)
      · have c30 : r24.toInt = 0 := congrArg Int32.toInt c29
        have i31 : iv r24 0 0 := iv_Q c30 ir24 (iv_k (x := 0) (k := 0) rfl) (by decide)
        refine lv_iconst (v := -1) hx hb dX11_turned_44 (by decide) ?_
        exact u_iret C h hr hQ (⟨⟨by decide, by decide⟩, tf1, of1⟩) (Nat.le_of_ble_eq_true rfl) (Nat.le_of_ble_eq_true rfl) dX11_turned_45
      · have c32 : r24.toInt ≠ 0 := fun z_ => c29 (Int32.toInt_inj.mp z_)
        have i33 : iv r24 1 1 := iv_Nl c32 ir24 (by decide)
        obtain ⟨i34, i35⟩ := cnr24 c32
        have i36 : iv u4 0 1 := ⟨by omega, by omega⟩
        refine lv_aload_n hx hb dX11_turned_32 rfl (lv_at hl 0 rfl) ?_
        refine lv_iload_n hx hb dX11_turned_33 rfl (lv_at hl 1 rfl) ?_
        refine lv_iload_n hx hb dX11_turned_34 rfl (lv_at hl 2 rfl) ?_
        refine lv_iload_n hx hb dX11_turned_35 rfl (lv_at hl 3 rfl) ?_
        refine lv_iload hx hb dX11_turned_36 (lv_at hl 4 rfl) ?_
        obtain ⟨_, r37⟩ := t_rec tf1 hu0 (by decide) wf_60
        refine k_i (r_V C h hl (As := [.int u1, .int u2, .int u3, .int u4]) (rest := []) (s_X11_turns l D G b0 τ f1 tf1 u0 hu0 u1 i12 u2 (iv_w i21 (by decide)) u3 (iv_w i22 (by decide)) u4 (iv_w i36 (by decide))) r37 (Cn := RX11) (T := TX11) (N := 32) rfl rfl mk_X11_turns w_1879 w_1881 w_71 w_1882 ⟨Nat.le_of_ble_eq_true rfl, Nat.le_of_ble_eq_true rfl⟩ rfl (Nat.le_of_ble_eq_true rfl) ⟨Nat.le_of_ble_eq_true rfl, Nat.le_of_ble_eq_true rfl⟩ rfl dX11_turned_38) h (fun r38 f39 H locs p40 h => ?_)
        obtain ⟨ir38, tf39, ogf39⟩ := p40
        have egf39 := Fr.nil2 ogf39
        subst egf39
        refine lv_goto (tgt := 45) hx hb dX11_turned_41 (by decide) ?_
        exact u_iret C h hr hQ (⟨ir38, tf1, of1⟩) (Nat.le_of_ble_eq_true rfl) (Nat.le_of_ble_eq_true rfl) dX11_turned_45
abbrev rm_s_X11_laysOrbit : Room := { frames := 5, cells := 0, slots := 0, locals := 129 }
set_option maxRecDepth 100000 in
set_option maxHeartbeats 4000000 in
theorem s_X11_laysOrbit (l : Launch) (D : va_G) (G : Nat → Nat) (b0 : Nat) (τ : Nat → Nat) (f : hM) (t : TI G 9 τ f) (u0 : Nat) (hu0 : τ u0 = 60) (u1 : Int32) (hu1 : iv u1 0 7) (u2 : Int32) (hu2 : iv u2 (-2147483648) 2147483647) (u3 : Int32) (hu3 : iv u3 (-2147483648) 2147483647) : mI l yX11_laysOrbit cX11_laysOrbit 7 (.int) rm_s_X11_laysOrbit D G b0 f [.ref u0, .int u1, .int u2, .int u3] (fun r f1 => iv r (-1) 40 ∧ TI G 9 τ f1 ∧ Fr [71, 81] τ f f1) := by
  refine met2 (own := RX11) (by decide) rfl (Nat.le_of_ble_eq_true rfl) ?_
  intro p e s m args below meth c ls Q hQ C hr hini hl h
  have hl : lv_has ls 7 [(0, .ref u0), (1, .int u1), (2, .int u2), (3, .int u3)] := hl
  obtain ⟨hx, hb, hml, hown, hts, hE0, hlk⟩ := id C
  have o := Fr.rf [71, 81] τ f
  have L17 : ∀ (n17 : Nat) (ls : Array Slot) (f_17 : hM) (H : Heap) (locs : List Loc) (v17_4 : Int32), 41 - v17_4.toInt < (n17 : Int) → lv_has ls 7 [(0, .ref u0), (1, .int u1), (2, .int u2), (3, .int u3), (4, .int v17_4)] → hw D b0 s.heap f_17 H locs → TI G 9 τ f_17 → Fr [71, 81] τ f f_17 → iv v17_4 1 41 → W p l e rm_s_X11_laysOrbit s m args below meth c H locs 0 0 Q (F0 m 17 ls []) := by
    intro n17
    induction n17 with
    | zero => intro ls f_17 H locs v17_4 hm17 hl h t_17 o_17 iv17_4; exact absurd hm17 (by omega)
    | succ n17 ih17 =>
      intro ls f_17 H locs v17_4 hm17 hl h t_17 o_17 iv17_4
      have L92 : ∀ (ls : Array Slot) (f_92 : hM) (H : Heap) (locs : List Loc) (v92_5 : Int32) (v92_6 : Int32) (y92_0 : Int32) (y92_1 : Int32) (y92_2 : Nat), lv_has ls 7 [(0, .ref u0), (1, .int u1), (2, .int u2), (3, .int u3), (4, .int v17_4), (5, .int v92_5), (6, .int v92_6)] → hw D b0 s.heap f_92 H locs → TI G 9 τ f_92 → Fr [71, 81] τ f f_92 → iv v17_4 1 40 → iv v92_5 0 1 → iv v92_6 (-1000002) 1000002 → iv y92_0 (-2147483648) 2147483647 → iv y92_1 1 40 → τ y92_2 = 71 → W p l e rm_s_X11_laysOrbit s m args below meth c H locs 0 0 Q (F0 m 92 ls [.int y92_0, .int y92_1, .ref y92_2]) := by
        intro ls f_92 H locs v92_5 v92_6 y92_0 y92_1 y92_2 hl h t_92 o_92 jv92_4 iv92_5 iv92_6 iy92_0 iy92_1 ty92_2
        have L119 : ∀ (ls : Array Slot) (f_119 : hM) (H : Heap) (locs : List Loc) (y119_0 : Int32) (y119_1 : Int32) (y119_2 : Nat), lv_has ls 7 [(0, .ref u0), (1, .int u1), (2, .int u2), (3, .int u3), (4, .int v17_4), (5, .int v92_5)] → hw D b0 s.heap f_119 H locs → TI G 9 τ f_119 → Fr [71, 81] τ f f_119 → iv y119_0 (-2147483648) 2147483647 → iv y119_1 1 40 → τ y119_2 = 81 → W p l e rm_s_X11_laysOrbit s m args below meth c H locs 0 0 Q (F0 m 119 ls [.int y119_0, .int y119_1, .ref y119_2]) := by
          intro ls f_119 H locs y119_0 y119_1 y119_2 hl h t_119 o_119 iy119_0 iy119_1 ty119_2
          refine t_iast C h t_119 o_119 ty119_2 (by decide) (by decide) wf_81 fw_81 (iv_in iy119_1 (by decide)) iy119_0 dX11_laysOrbit_119 (fun f1 H locs h tf1 of1 hq => ?_)
          refine lv_iload hx hb dX11_laysOrbit_120 (lv_at hl 5 rfl) ?_
          refine lv_iconst (v := 1) hx hb dX11_laysOrbit_122 (by decide) ?_
          refine lv_icmp_ne (tgt := 151) hx hb dX11_laysOrbit_123 (by decide) (fun c2 => ?_) (fun c2 => ?_)
          · have c3 : v92_5.toInt ≠ 1 := fun z_ => c2 (Int32.toInt_inj.mp z_)
            have i4 : iv v92_5 0 0 := iv_Nh c3 iv92_5 (by decide)
            refine i_inc hx hb dX11_laysOrbit_151 hl (k := 4) rfl jv92_4 rfl (lo := 2) (hi := 41) (by decide) (by decide) (lv' := fun v => [(4, .int v), (0, .ref u0), (1, .int u1), (2, .int u2), (3, .int u3), (5, .int v92_5)]) (fun _ => rfl) (fun z7 ls ez7 mz7 iz7 hl => ?_)
            refine lv_goto (tgt := 17) hx hb dX11_laysOrbit_154 (by decide) ?_
            exact ih17 ls f1 H locs z7 (show 41 - z7.toInt < _ by omega) (lv_cons hl 1 rfl (lv_cons hl 2 rfl (lv_cons hl 3 rfl (lv_cons hl 4 rfl (lv_cons hl 0 rfl (lv_nil hl)))))) h tf1 of1 (iv_w iz7 (by decide))
          · have c5 : v92_5.toInt = 1 := congrArg Int32.toInt c2
            have i6 : iv v92_5 1 1 := iv_Q c5 iv92_5 (iv_k (x := 1) (k := 1) rfl) (by decide)
            refine lv_aload_n hx hb dX11_laysOrbit_126 rfl (lv_at hl 0 rfl) ?_
            refine t_getr (tq := 71) C h tf1 hu0 (by decide) wf_60 rfl fl_X11_48 dX11_laysOrbit_127 (fun q8 tq8 => ?_)
            refine lv_iload hx hb dX11_laysOrbit_130 (lv_at hl 4 rfl) ?_
            refine t_iald C h tf1 tq8 (by decide) wf_71 (iv_in jv92_4 (by decide)) dX11_laysOrbit_132 (fun z9 iz9 => ?_)
            refine lv_iload_n hx hb dX11_laysOrbit_133 rfl (lv_at hl 2 rfl) ?_
            refine lv_icmp_ne (tgt := 151) hx hb dX11_laysOrbit_134 (by decide) (fun c10 => ?_) (fun c10 => ?_)
            · have c11 : z9.toInt ≠ u2.toInt := fun z_ => c10 (Int32.toInt_inj.mp z_)
              refine i_inc hx hb dX11_laysOrbit_151 hl (k := 4) rfl jv92_4 rfl (lo := 2) (hi := 41) (by decide) (by decide) (lv' := fun v => [(4, .int v), (0, .ref u0), (1, .int u1), (2, .int u2), (3, .int u3), (5, .int v92_5)]) (fun _ => rfl) (fun z13 ls ez13 mz13 iz13 hl => ?_)
              refine lv_goto (tgt := 17) hx hb dX11_laysOrbit_154 (by decide) ?_
              exact ih17 ls f1 H locs z13 (show 41 - z13.toInt < _ by omega) (lv_cons hl 1 rfl (lv_cons hl 2 rfl (lv_cons hl 3 rfl (lv_cons hl 4 rfl (lv_cons hl 0 rfl (lv_nil hl)))))) h tf1 of1 (iv_w iz13 (by decide))
            · have c12 : z9.toInt = u2.toInt := congrArg Int32.toInt c10
              refine lv_aload_n hx hb dX11_laysOrbit_137 rfl (lv_at hl 0 rfl) ?_
              refine t_getr (tq := 81) C h tf1 hu0 (by decide) wf_60 rfl fl_X11_51 dX11_laysOrbit_138 (fun q14 tq14 => ?_)
              refine lv_iload hx hb dX11_laysOrbit_141 (lv_at hl 4 rfl) ?_
              refine t_iald C h tf1 tq14 (by decide) wf_81 (iv_in jv92_4 (by decide)) dX11_laysOrbit_143 (fun z15 iz15 => ?_)
              refine lv_iload_n hx hb dX11_laysOrbit_144 rfl (lv_at hl 3 rfl) ?_
              refine lv_icmp_ne (tgt := 151) hx hb dX11_laysOrbit_145 (by decide) (fun c16 => ?_) (fun c16 => ?_)
              · have c17 : z15.toInt ≠ u3.toInt := fun z_ => c16 (Int32.toInt_inj.mp z_)
                refine i_inc hx hb dX11_laysOrbit_151 hl (k := 4) rfl jv92_4 rfl (lo := 2) (hi := 41) (by decide) (by decide) (lv' := fun v => [(4, .int v), (0, .ref u0), (1, .int u1), (2, .int u2), (3, .int u3), (5, .int v92_5)]) (fun _ => rfl) (fun z19 ls ez19 mz19 iz19 hl => ?_)
                refine lv_goto (tgt := 17) hx hb dX11_laysOrbit_154 (by decide) ?_
                exact ih17 ls f1 H locs z19 (show 41 - z19.toInt < _ by omega) (lv_cons hl 1 rfl (lv_cons hl 2 rfl (lv_cons hl 3 rfl (lv_cons hl 4 rfl (lv_cons hl 0 rfl (lv_nil hl)))))) h tf1 of1 (iv_w iz19 (by decide))
              · have c18 : z15.toInt = u3.toInt := congrArg Int32.toInt c16
                refine lv_iload hx hb dX11_laysOrbit_148 (lv_at hl 4 rfl) ?_
                exact u_iret C h hr hQ (⟨(iv_w jv92_4 (by decide)), tf1, of1⟩) (Nat.le_of_ble_eq_true rfl) (Nat.le_of_ble_eq_true rfl) dX11_laysOrbit_150
        refine t_iast C h t_92 o_92 ty92_2 (by decide) (by decide) wf_71 fw_71 (iv_in iy92_1 (by decide)) iy92_0 dX11_laysOrbit_92 (fun f20 H locs h tf20 of20 hq => ?_)
        refine lv_aload_n hx hb dX11_laysOrbit_93 rfl (lv_at hl 0 rfl) ?_
        refine t_getr (tq := 81) C h tf20 hu0 (by decide) wf_60 rfl fl_X11_51 dX11_laysOrbit_94 (fun q21 tq21 => ?_)
        refine lv_iload hx hb dX11_laysOrbit_97 (lv_at hl 4 rfl) ?_
        refine lv_iload hx hb dX11_laysOrbit_99 (lv_at hl 5 rfl) ?_
        refine lv_iconst (v := 1) hx hb dX11_laysOrbit_101 (by decide) ?_
        refine lv_icmp_ne (tgt := 110) hx hb dX11_laysOrbit_102 (by decide) (fun c22 => ?_) (fun c22 => ?_)
        · have c23 : v92_5.toInt ≠ 1 := fun z_ => c22 (Int32.toInt_inj.mp z_)
          have i24 : iv v92_5 0 0 := iv_Nh c23 iv92_5 (by decide)
          refine lv_aload_n hx hb dX11_laysOrbit_110 rfl (lv_at hl 0 rfl) ?_
          refine t_getr (tq := 81) C h tf20 hu0 (by decide) wf_60 rfl fl_X11_51 dX11_laysOrbit_111 (fun q27 tq27 => ?_)
          refine lv_iload hx hb dX11_laysOrbit_114 (lv_at hl 4 rfl) ?_
          refine lv_iconst (v := 1) hx hb dX11_laysOrbit_116 (by decide) ?_
          refine i_subk hx hb dX11_laysOrbit_117 jv92_4 (k := 1) rfl (lo := 0) (hi := 39) (by decide) (fun z28 ez28 mz28 iz28 => ?_)
          refine t_iald C h tf20 tq27 (by decide) wf_81 (iv_in iz28 (by decide)) dX11_laysOrbit_118 (fun z29 iz29 => ?_)
          exact L119 ls f20 H locs z29 v17_4 q21 (lv_cons hl 0 rfl (lv_cons hl 1 rfl (lv_cons hl 2 rfl (lv_cons hl 3 rfl (lv_cons hl 4 rfl (lv_cons hl 5 rfl (lv_nil hl))))))) h tf20 of20 iz29 jv92_4 tq21
        · have c25 : v92_5.toInt = 1 := congrArg Int32.toInt c22
          have i26 : iv v92_5 1 1 := iv_Q c25 iv92_5 (iv_k (x := 1) (k := 1) rfl) (by decide)
          refine lv_iload hx hb dX11_laysOrbit_105 (lv_at hl 6 rfl) ?_
          refine lv_goto (tgt := 119) hx hb dX11_laysOrbit_107 (by decide) ?_
          exact L119 ls f20 H locs v92_6 v17_4 q21 (lv_cons hl 0 rfl (lv_cons hl 1 rfl (lv_cons hl 2 rfl (lv_cons hl 3 rfl (lv_cons hl 4 rfl (lv_cons hl 5 rfl (lv_nil hl))))))) h tf20 of20 (iv_w iv92_6 (by decide)) jv92_4 tq21
      refine lv_iload hx hb dX11_laysOrbit_17 (lv_at hl 4 rfl) ?_
      refine lv_bipush (v := 40) hx hb dX11_laysOrbit_19 (by decide) ?_
      refine lv_icmp_gt (tgt := 157) hx hb dX11_laysOrbit_21 (by decide) (fun c30 => ?_) (fun c30 => ?_)
      · have c31 : 40 < v17_4.toInt := Int32.lt_iff_toInt_lt.mp c30
        have i32 : iv v17_4 41 41 := iv_Lr c31 (iv_k (x := 40) (k := 40) rfl) iv17_4 (by decide)
        refine lv_iconst (v := -1) hx hb dX11_laysOrbit_157 (by decide) ?_
        exact u_iret C h hr hQ (⟨⟨by decide, by decide⟩, t_17, o_17⟩) (Nat.le_of_ble_eq_true rfl) (Nat.le_of_ble_eq_true rfl) dX11_laysOrbit_158
      · have c33 : v17_4.toInt ≤ 40 := Int32.le_iff_toInt_le.mp (iv_nlt c30)
        have i34 : iv v17_4 1 40 := iv_El c33 iv17_4 (iv_k (x := 40) (k := 40) rfl) (by decide)
        refine lv_iload hx hb dX11_laysOrbit_24 (lv_at hl 4 rfl) ?_
        refine lv_iconst (v := 1) hx hb dX11_laysOrbit_26 (by decide) ?_
        refine i_subk hx hb dX11_laysOrbit_27 i34 (k := 1) rfl (lo := 0) (hi := 39) (by decide) (fun z35 ez35 mz35 iz35 => ?_)
        refine lv_iconst (v := 2) hx hb dX11_laysOrbit_28 (by decide) ?_
        refine lv_irem hx hb dX11_laysOrbit_29 (by decide) (i_topm (P := fun q_ => q_ < Int32.toInt 2 ∧ q_ ≤ Int32.toInt z35) (iv_remm (iv_w iz35 (by decide) : iv _ 0 39) (iv_k (x := 2) (k := 2) rfl) (by decide)) (fun z36 ez36 mz36 iz36 => ?_))
        refine lv_istore (lv' := [(5, .int z36), (0, .ref u0), (1, .int u1), (2, .int u2), (3, .int u3), (4, .int v17_4)]) hx hb dX11_laysOrbit_30 hl (by decide) rfl (fun ls hl => ?_)
        refine lv_aload_n hx hb dX11_laysOrbit_32 rfl (lv_at hl 1 rfl) ?_
        refine lv_iload_n hx hb dX11_laysOrbit_33 rfl (lv_at hl 2 rfl) ?_
        refine lv_aload_n hx hb dX11_laysOrbit_34 rfl (lv_at hl 1 rfl) ?_
        refine t_getr (tq := 71) C h t_17 hu0 (by decide) wf_60 rfl fl_X11_48 dX11_laysOrbit_35 (fun q37 tq37 => ?_)
        refine lv_iload hx hb dX11_laysOrbit_38 (lv_at hl 5 rfl) ?_
        refine lv_iconst (v := 1) hx hb dX11_laysOrbit_40 (by decide) ?_
        refine i_subk hx hb dX11_laysOrbit_41 i34 (k := 1) rfl (lo := 0) (hi := 39) (by decide) (fun z38 ez38 mz38 iz38 => ?_)
        refine t_iald C h t_17 tq37 (by decide) wf_71 (iv_in iz38 (by decide)) dX11_laysOrbit_42 (fun z39 iz39 => ?_)
        refine lv_aload_n hx hb dX11_laysOrbit_43 rfl (lv_at hl 1 rfl) ?_
        refine t_getr (tq := 81) C h t_17 hu0 (by decide) wf_60 rfl fl_X11_51 dX11_laysOrbit_44 (fun q40 tq40 => ?_)
        refine lv_iload hx hb dX11_laysOrbit_47 (lv_at hl 5 rfl) ?_
        refine lv_iconst (v := 1) hx hb dX11_laysOrbit_49 (by decide) ?_
        refine i_subk hx hb dX11_laysOrbit_50 i34 (k := 1) rfl (lo := 0) (hi := 39) (by decide) (fun z41 ez41 mz41 iz41 => ?_)
        refine t_iald C h t_17 tq40 (by decide) wf_81 (iv_in iz41 (by decide)) dX11_laysOrbit_51 (fun z42 iz42 => ?_)
        refine lv_iload hx hb dX11_laysOrbit_52 (lv_at hl 0 rfl) ?_
        obtain ⟨_, r43⟩ := t_rec t_17 hu0 (by decide) wf_60
        refine k_i (r_V C h hl (As := [.int u1, .int z39, .int z42, .int z36]) (rest := []) (s_X11_turns l D G b0 τ f_17 t_17 u0 hu0 u1 hu1 z39 iz39 z42 iz42 z36 (iv_w iz36 (by decide))) r43 (Cn := RX11) (T := TX11) (N := 32) rfl rfl mk_X11_turns w_1879 w_1881 w_71 w_1882 ⟨Nat.le_of_ble_eq_true rfl, Nat.le_of_ble_eq_true rfl⟩ rfl (Nat.le_of_ble_eq_true rfl) ⟨Nat.le_of_ble_eq_true rfl, Nat.le_of_ble_eq_true rfl⟩ rfl dX11_laysOrbit_54) h (fun r44 f45 H locs p46 h => ?_)
        obtain ⟨ir44, tf45, ogf45⟩ := p46
        have egf45 := Fr.nil2 ogf45
        subst egf45
        refine lv_istore (lv' := [(6, .int r44), (5, .int z36), (0, .ref u0), (1, .int u1), (2, .int u2), (3, .int u3), (4, .int v17_4)]) hx hb dX11_laysOrbit_57 hl (by decide) rfl (fun ls hl => ?_)
        refine lv_iload hx hb dX11_laysOrbit_59 (lv_at hl 0 rfl) ?_
        refine lv_iconst (v := -1) hx hb dX11_laysOrbit_61 (by decide) ?_
        refine lv_icmp_ne (tgt := 67) hx hb dX11_laysOrbit_62 (by decide) (fun c47 => ?_) (fun c47 => ?_)
        · have c48 : r44.toInt ≠ (-1) := fun z_ => c47 (Int32.toInt_inj.mp z_)
          refine lv_aload_n hx hb dX11_laysOrbit_67 rfl (lv_at hl 2 rfl) ?_
          refine t_getr (tq := 71) C h t_17 hu0 (by decide) wf_60 rfl fl_X11_48 dX11_laysOrbit_68 (fun q51 tq51 => ?_)
          refine lv_iload hx hb dX11_laysOrbit_71 (lv_at hl 6 rfl) ?_
          refine lv_iload hx hb dX11_laysOrbit_73 (lv_at hl 1 rfl) ?_
          refine lv_if_ne (tgt := 83) hx hb dX11_laysOrbit_75 (by decide) (fun c52 => ?_) (fun c52 => ?_)
          · have c53 : z36.toInt ≠ 0 := fun z_ => c52 (Int32.toInt_inj.mp z_)
            have i54 : iv z36 1 1 := iv_Nl c53 iz36 (by decide)
            refine lv_aload_n hx hb dX11_laysOrbit_83 rfl (lv_at hl 2 rfl) ?_
            refine t_getr (tq := 71) C h t_17 hu0 (by decide) wf_60 rfl fl_X11_48 dX11_laysOrbit_84 (fun q57 tq57 => ?_)
            refine lv_iload hx hb dX11_laysOrbit_87 (lv_at hl 6 rfl) ?_
            refine lv_iconst (v := 1) hx hb dX11_laysOrbit_89 (by decide) ?_
            refine i_subk hx hb dX11_laysOrbit_90 i34 (k := 1) rfl (lo := 0) (hi := 39) (by decide) (fun z58 ez58 mz58 iz58 => ?_)
            refine t_iald C h t_17 tq57 (by decide) wf_71 (iv_in iz58 (by decide)) dX11_laysOrbit_91 (fun z59 iz59 => ?_)
            exact L92 ls f_17 H locs z36 r44 z59 v17_4 q51 (lv_cons hl 2 rfl (lv_cons hl 3 rfl (lv_cons hl 4 rfl (lv_cons hl 5 rfl (lv_cons hl 6 rfl (lv_cons hl 1 rfl (lv_cons hl 0 rfl (lv_nil hl)))))))) h t_17 o_17 i34 (iv_w i54 (by decide)) ir44 iz59 i34 tq51
          · have c55 : z36.toInt = 0 := congrArg Int32.toInt c52
            have i56 : iv z36 0 0 := iv_Q c55 iz36 (iv_k (x := 0) (k := 0) rfl) (by decide)
            refine lv_iload hx hb dX11_laysOrbit_78 (lv_at hl 0 rfl) ?_
            refine lv_goto (tgt := 92) hx hb dX11_laysOrbit_80 (by decide) ?_
            exact L92 ls f_17 H locs z36 r44 r44 v17_4 q51 (lv_cons hl 2 rfl (lv_cons hl 3 rfl (lv_cons hl 4 rfl (lv_cons hl 5 rfl (lv_cons hl 6 rfl (lv_cons hl 1 rfl (lv_cons hl 0 rfl (lv_nil hl)))))))) h t_17 o_17 i34 (iv_w i56 (by decide)) ir44 (iv_w ir44 (by decide)) i34 tq51
        · have c49 : r44.toInt = (-1) := congrArg Int32.toInt c47
          have i50 : iv r44 (-1) (-1) := iv_Q c49 ir44 (iv_k (x := (-1)) (k := (-1)) rfl) (by decide)
          refine lv_iconst (v := -1) hx hb dX11_laysOrbit_65 (by decide) ?_
          exact u_iret C h hr hQ (⟨⟨by decide, by decide⟩, t_17, o_17⟩) (Nat.le_of_ble_eq_true rfl) (Nat.le_of_ble_eq_true rfl) dX11_laysOrbit_66
  refine lv_aload_n hx hb dX11_laysOrbit_0 rfl (lv_at hl 0 rfl) ?_
  refine t_getr (tq := 71) C h t hu0 (by decide) wf_60 rfl fl_X11_48 dX11_laysOrbit_1 (fun q60 tq60 => ?_)
  refine lv_iconst (v := 0) hx hb dX11_laysOrbit_4 (by decide) ?_
  refine lv_iload_n hx hb dX11_laysOrbit_5 rfl (lv_at hl 2 rfl) ?_
  refine t_iast C h t o tq60 (by decide) (by decide) wf_71 fw_71 (by unfold vp_in; decide) hu2 dX11_laysOrbit_6 (fun f61 H locs h tf61 of61 hq => ?_)
  refine lv_aload_n hx hb dX11_laysOrbit_7 rfl (lv_at hl 0 rfl) ?_
  refine t_getr (tq := 81) C h tf61 hu0 (by decide) wf_60 rfl fl_X11_51 dX11_laysOrbit_8 (fun q62 tq62 => ?_)
  refine lv_iconst (v := 0) hx hb dX11_laysOrbit_11 (by decide) ?_
  refine lv_iload_n hx hb dX11_laysOrbit_12 rfl (lv_at hl 3 rfl) ?_
  refine t_iast C h tf61 of61 tq62 (by decide) (by decide) wf_81 fw_81 (by unfold vp_in; decide) hu3 dX11_laysOrbit_13 (fun f63 H locs h tf63 of63 hq => ?_)
  refine lv_iconst (v := 1) hx hb dX11_laysOrbit_14 (by decide) ?_
  refine lv_istore (lv' := [(4, .int 1), (0, .ref u0), (1, .int u1), (2, .int u2), (3, .int u3)]) hx hb dX11_laysOrbit_15 hl (by decide) rfl (fun ls hl => ?_)
  exact L17 41 ls f63 H locs 1 (by decide) (lv_cons hl 1 rfl (lv_cons hl 2 rfl (lv_cons hl 3 rfl (lv_cons hl 4 rfl (lv_cons hl 0 rfl (lv_nil hl)))))) h tf63 of63 ⟨by decide, by decide⟩
abbrev rm_s_X11_orbit : Room := { frames := 6, cells := 0, slots := 0, locals := 155 }
set_option maxRecDepth 100000 in
set_option maxHeartbeats 4000000 in
theorem s_X11_orbit (l : Launch) (D : va_G) (G : Nat → Nat) (b0 : Nat) (τ : Nat → Nat) (f : hM) (t : TI G 9 τ f) (u0 : Nat) (hu0 : τ u0 = 60) (u1 : Int32) (hu1 : iv u1 (-2147483648) 2147483647) (u2 : Int32) (hu2 : iv u2 (-2147483648) 2147483647) (u3 : Int32) (hu3 : iv u3 (-2147483648) 2147483647) (u4 : Int32) (hu4 : iv u4 (-2147483648) 2147483647) (u5 : Int32) (hu5 : iv u5 (-2147483648) 2147483647) : mI l yX11_orbit cX11_orbit 7 (.int) rm_s_X11_orbit D G b0 f [.ref u0, .int u1, .int u2, .int u3, .int u4, .int u5] (fun r f1 => iv r (-2147483648) 2147483647 ∧ TI G 9 τ f1 ∧ Fr [60, 71, 81, 60001] τ f f1) := by
  refine met2 (own := RX11) (by decide) rfl (Nat.le_of_ble_eq_true rfl) ?_
  intro p e s m args below meth c ls Q hQ C hr hini hl h
  have hl : lv_has ls 7 [(0, .ref u0), (1, .int u1), (2, .int u2), (3, .int u3), (4, .int u4), (5, .int u5)] := hl
  obtain ⟨hx, hb, hml, hown, hts, hE0, hlk⟩ := id C
  have o := Fr.rf [60, 71, 81, 60001] τ f
  have L47 : ∀ (ls : Array Slot) (f_47 : hM) (H : Heap) (locs : List Loc), lv_has ls 7 [(0, .ref u0), (1, .int u1), (2, .int u2), (3, .int u3), (4, .int u4), (5, .int u5)] → hw D b0 s.heap f_47 H locs → TI G 9 τ f_47 → Fr [60, 71, 81, 60001] τ f f_47 → iv u1 0 7 → iv u2 1 1000002 → iv u3 1 1000002 → iv u4 (-1) 2147483647 → W p l e rm_s_X11_orbit s m args below meth c H locs 0 0 Q (F0 m 47 ls []) := by
    intro ls f_47 H locs hl h t_47 o_47 jv47_1 jv47_2 jv47_3 jv47_4
    refine lv_aload_n hx hb dX11_orbit_47 rfl (lv_at hl 0 rfl) ?_
    refine lv_iload_n hx hb dX11_orbit_48 rfl (lv_at hl 1 rfl) ?_
    refine lv_iload_n hx hb dX11_orbit_49 rfl (lv_at hl 2 rfl) ?_
    refine lv_iload_n hx hb dX11_orbit_50 rfl (lv_at hl 3 rfl) ?_
    obtain ⟨_, r1⟩ := t_rec t_47 hu0 (by decide) wf_60
    refine k_i (r_V C h hl (As := [.int u1, .int u2, .int u3]) (rest := []) (s_X11_laysOrbit l D G b0 τ f_47 t_47 u0 hu0 u1 jv47_1 u2 (iv_w jv47_2 (by decide)) u3 (iv_w jv47_3 (by decide))) r1 (Cn := RX11) (T := TX11) (N := 32) rfl rfl mk_X11_laysOrbit w_1891 w_1893 w_73 w_1894 ⟨Nat.le_of_ble_eq_true rfl, Nat.le_of_ble_eq_true rfl⟩ rfl (Nat.le_of_ble_eq_true rfl) ⟨Nat.le_of_ble_eq_true rfl, Nat.le_of_ble_eq_true rfl⟩ rfl dX11_orbit_51) h (fun r2 f3 H locs p4 h => ?_)
    obtain ⟨ir2, tf3, ogf3⟩ := p4
    have of3 : Fr [60, 71, 81, 60001] τ f f3 := Fr.tr o_47 ogf3 (by decide) (by decide)
    refine lv_istore (lv' := [(6, .int r2), (0, .ref u0), (1, .int u1), (2, .int u2), (3, .int u3), (4, .int u4), (5, .int u5)]) hx hb dX11_orbit_54 hl (by decide) rfl (fun ls hl => ?_)
    refine lv_iload hx hb dX11_orbit_56 (lv_at hl 0 rfl) ?_
    refine lv_iconst (v := -1) hx hb dX11_orbit_58 (by decide) ?_
    refine lv_icmp_eq (tgt := 68) hx hb dX11_orbit_59 (by decide) (fun c5 => ?_) (fun c5 => ?_)
    · have c6 : r2.toInt = (-1) := congrArg Int32.toInt c5
      have i7 : iv r2 (-1) (-1) := iv_Q c6 ir2 (iv_k (x := (-1)) (k := (-1)) rfl) (by decide)
      refine lv_iload hx hb dX11_orbit_68 (lv_at hl 0 rfl) ?_
      exact u_iret C h hr hQ (⟨(iv_w i7 (by decide)), tf3, of3⟩) (Nat.le_of_ble_eq_true rfl) (Nat.le_of_ble_eq_true rfl) dX11_orbit_70
    · have c8 : r2.toInt ≠ (-1) := fun z_ => c5 (Int32.toInt_inj.mp z_)
      have i9 : iv r2 0 40 := iv_Nl c8 ir2 (by decide)
      refine lv_iload hx hb dX11_orbit_62 (lv_at hl 5 rfl) ?_
      refine lv_iconst (v := -1) hx hb dX11_orbit_64 (by decide) ?_
      refine lv_icmp_ne (tgt := 71) hx hb dX11_orbit_65 (by decide) (fun c10 => ?_) (fun c10 => ?_)
      · have c11 : u4.toInt ≠ (-1) := fun z_ => c10 (Int32.toInt_inj.mp z_)
        have i12 : iv u4 0 2147483647 := iv_Nl c11 jv47_4 (by decide)
        refine lv_iload hx hb dX11_orbit_71 (lv_at hl 5 rfl) ?_
        refine lv_iload hx hb dX11_orbit_73 (lv_at hl 0 rfl) ?_
        refine lv_icmp_lt (tgt := 81) hx hb dX11_orbit_75 (by decide) (fun c15 => ?_) (fun c15 => ?_)
        · have c16 : u4.toInt < r2.toInt := Int32.lt_iff_toInt_lt.mp c15
          have i17 : iv u4 0 39 := iv_Ll c16 i12 i9 (by decide)
          have i18 : iv r2 1 40 := iv_Lr c16 i12 i9 (by decide)
          refine lv_iload hx hb dX11_orbit_81 (lv_at hl 6 rfl) ?_
          refine lv_if_ne (tgt := 96) hx hb dX11_orbit_83 (by decide) (fun c20 => ?_) (fun c20 => ?_)
          · have c21 : u5.toInt ≠ 0 := fun z_ => c20 (Int32.toInt_inj.mp z_)
            refine lv_aload_n hx hb dX11_orbit_96 rfl (lv_at hl 1 rfl) ?_
            refine t_getr (tq := 81) C h tf3 hu0 (by decide) wf_60 rfl fl_X11_51 dX11_orbit_97 (fun q24 tq24 => ?_)
            refine lv_iload hx hb dX11_orbit_100 (lv_at hl 5 rfl) ?_
            refine t_iald C h tf3 tq24 (by decide) wf_81 (iv_in i17 (by decide)) dX11_orbit_102 (fun z25 iz25 => ?_)
            exact u_iret C h hr hQ (⟨iz25, tf3, of3⟩) (Nat.le_of_ble_eq_true rfl) (Nat.le_of_ble_eq_true rfl) dX11_orbit_103
          · have c22 : u5.toInt = 0 := congrArg Int32.toInt c20
            have i23 : iv u5 0 0 := iv_Q c22 hu5 (iv_k (x := 0) (k := 0) rfl) (by decide)
            refine lv_aload_n hx hb dX11_orbit_86 rfl (lv_at hl 1 rfl) ?_
            refine t_getr (tq := 71) C h tf3 hu0 (by decide) wf_60 rfl fl_X11_48 dX11_orbit_87 (fun q26 tq26 => ?_)
            refine lv_iload hx hb dX11_orbit_90 (lv_at hl 5 rfl) ?_
            refine t_iald C h tf3 tq26 (by decide) wf_71 (iv_in i17 (by decide)) dX11_orbit_92 (fun z27 iz27 => ?_)
            refine lv_goto (tgt := 103) hx hb dX11_orbit_93 (by decide) ?_
            exact u_iret C h hr hQ (⟨iz27, tf3, of3⟩) (Nat.le_of_ble_eq_true rfl) (Nat.le_of_ble_eq_true rfl) dX11_orbit_103
        · have c19 : r2.toInt ≤ u4.toInt := Int32.le_iff_toInt_le.mp (iv_nlt c15)
          refine lv_bipush (v := -2) hx hb dX11_orbit_78 (by decide) ?_
          exact u_iret C h hr hQ (⟨⟨by decide, by decide⟩, tf3, of3⟩) (Nat.le_of_ble_eq_true rfl) (Nat.le_of_ble_eq_true rfl) dX11_orbit_80
      · have c13 : u4.toInt = (-1) := congrArg Int32.toInt c10
        have i14 : iv u4 (-1) (-1) := iv_Q c13 jv47_4 (iv_k (x := (-1)) (k := (-1)) rfl) (by decide)
        refine lv_iload hx hb dX11_orbit_68 (lv_at hl 0 rfl) ?_
        exact u_iret C h hr hQ (⟨(iv_w i9 (by decide)), tf3, of3⟩) (Nat.le_of_ble_eq_true rfl) (Nat.le_of_ble_eq_true rfl) dX11_orbit_70
  refine lv_aload_n hx hb dX11_orbit_0 rfl (lv_at hl 0 rfl) ?_
  refine lv_iconst (v := 0) hx hb dX11_orbit_1 (by decide) ?_
  refine t_put C h t o hu0 (by decide) (by decide) (by decide) wf_60 fw_60 (k := 0) rfl flw_X11_75 (Or.inr ⟨_, _, _, rfl, rfl⟩) (v := .int 0) rfl rfl ⟨_, rfl, ⟨by decide, by decide⟩⟩ dX11_orbit_2 (fun f28 H locs h tf28 of28 hq ha_ hn_ hk_ => ?_)
  have k29 := ha_
  refine lv_aload_n hx hb dX11_orbit_5 rfl (lv_at hl 0 rfl) ?_
  refine lv_iload_n hx hb dX11_orbit_6 rfl (lv_at hl 1 rfl) ?_
  obtain ⟨_, r30⟩ := t_rec tf28 hu0 (by decide) wf_60
  refine k_i (r_V C h hl (As := [.int u1]) (rest := []) (s_X11_isSet l D G b0 τ f28 tf28 u0 hu0 u1 hu1) r30 (Cn := RX11) (T := TX11) (N := 32) rfl rfl mk_X11_isSet w_1620 w_1622 w_51 w_1623 ⟨Nat.le_of_ble_eq_true rfl, Nat.le_of_ble_eq_true rfl⟩ rfl (Nat.le_of_ble_eq_true rfl) ⟨Nat.le_of_ble_eq_true rfl, Nat.le_of_ble_eq_true rfl⟩ rfl dX11_orbit_7) h (fun r31 f32 H locs p33 h => ?_)
  obtain ⟨ir31, tf32, ogf32, cnr31⟩ := p33
  have egf32 := Fr.nil2 ogf32
  subst egf32
  refine lv_if_eq (tgt := 44) hx hb dX11_orbit_10 (by decide) (fun c34 => ?_) (fun c34 => ?_)
  · have c35 : r31.toInt = 0 := congrArg Int32.toInt c34
    have i36 : iv r31 0 0 := iv_Q c35 ir31 (iv_k (x := 0) (k := 0) rfl) (by decide)
    refine lv_bipush (v := -2) hx hb dX11_orbit_44 (by decide) ?_
    exact u_iret C h hr hQ (⟨⟨by decide, by decide⟩, tf28, of28⟩) (Nat.le_of_ble_eq_true rfl) (Nat.le_of_ble_eq_true rfl) dX11_orbit_46
  · have c37 : r31.toInt ≠ 0 := fun z_ => c34 (Int32.toInt_inj.mp z_)
    have i38 : iv r31 1 1 := iv_Nl c37 ir31 (by decide)
    have i39 := cnr31 c37
    refine lv_iload_n hx hb dX11_orbit_13 rfl (lv_at hl 2 rfl) ?_
    refine lv_iload_n hx hb dX11_orbit_14 rfl (lv_at hl 3 rfl) ?_
    refine k_i (r_S C h hl (As := [.int u2, .int u3]) (rest := []) (s_X11_isField l D G b0 τ f28 tf28 u2 hu2 u3 hu3) mk_X11_isField w_1869 w_1870 w_1871 ⟨Nat.le_of_ble_eq_true rfl, Nat.le_of_ble_eq_true rfl⟩ rfl (Nat.le_of_ble_eq_true rfl) ⟨Nat.le_of_ble_eq_true rfl, Nat.le_of_ble_eq_true rfl⟩ rfl dX11_orbit_15) h (fun r40 f41 H locs p42 h => ?_)
    obtain ⟨ir40, tf41, ogf41, cnr40⟩ := p42
    have egf41 := Fr.nil2 ogf41
    subst egf41
    refine lv_if_eq (tgt := 44) hx hb dX11_orbit_18 (by decide) (fun c43 => ?_) (fun c43 => ?_)
    · have c44 : r40.toInt = 0 := congrArg Int32.toInt c43
      have i45 : iv r40 0 0 := iv_Q c44 ir40 (iv_k (x := 0) (k := 0) rfl) (by decide)
      refine lv_bipush (v := -2) hx hb dX11_orbit_44 (by decide) ?_
      exact u_iret C h hr hQ (⟨⟨by decide, by decide⟩, tf28, of28⟩) (Nat.le_of_ble_eq_true rfl) (Nat.le_of_ble_eq_true rfl) dX11_orbit_46
    · have c46 : r40.toInt ≠ 0 := fun z_ => c43 (Int32.toInt_inj.mp z_)
      have i47 : iv r40 1 1 := iv_Nl c46 ir40 (by decide)
      obtain ⟨i48, i49⟩ := cnr40 c46
      refine lv_iload hx hb dX11_orbit_21 (lv_at hl 4 rfl) ?_
      refine lv_iconst (v := -1) hx hb dX11_orbit_23 (by decide) ?_
      refine lv_icmp_lt (tgt := 44) hx hb dX11_orbit_24 (by decide) (fun c50 => ?_) (fun c50 => ?_)
      · have c51 : u4.toInt < (-1) := Int32.lt_iff_toInt_lt.mp c50
        have i52 : iv u4 (-2147483648) (-2) := iv_Ll c51 hu4 (iv_k (x := (-1)) (k := (-1)) rfl) (by decide)
        refine lv_bipush (v := -2) hx hb dX11_orbit_44 (by decide) ?_
        exact u_iret C h hr hQ (⟨⟨by decide, by decide⟩, tf28, of28⟩) (Nat.le_of_ble_eq_true rfl) (Nat.le_of_ble_eq_true rfl) dX11_orbit_46
      · have c53 : (-1) ≤ u4.toInt := Int32.le_iff_toInt_le.mp (iv_nlt c50)
        have i54 : iv u4 (-1) 2147483647 := iv_Er c53 (iv_k (x := (-1)) (k := (-1)) rfl) hu4 (by decide)
        refine lv_iload hx hb dX11_orbit_27 (lv_at hl 4 rfl) ?_
        refine lv_iconst (v := -1) hx hb dX11_orbit_29 (by decide) ?_
        refine lv_icmp_eq (tgt := 47) hx hb dX11_orbit_30 (by decide) (fun c55 => ?_) (fun c55 => ?_)
        · have c56 : u4.toInt = (-1) := congrArg Int32.toInt c55
          have i57 : iv u4 (-1) (-1) := iv_Q c56 i54 (iv_k (x := (-1)) (k := (-1)) rfl) (by decide)
          exact L47 ls f28 H locs (lv_cons hl 0 rfl (lv_cons hl 1 rfl (lv_cons hl 2 rfl (lv_cons hl 3 rfl (lv_cons hl 4 rfl (lv_cons hl 5 rfl (lv_nil hl))))))) h tf28 of28 i39 i48 i49 (iv_w i57 (by decide))
        · have c58 : u4.toInt ≠ (-1) := fun z_ => c55 (Int32.toInt_inj.mp z_)
          have i59 : iv u4 0 2147483647 := iv_Nl c58 i54 (by decide)
          refine lv_iload hx hb dX11_orbit_33 (lv_at hl 5 rfl) ?_
          refine lv_i2l hx hb dX11_orbit_35 rfl (i_topL hu5 (fun w60 ew60 mw60 iw60 => ?_))
          refine lv_lconst (v := 0) hx hb dX11_orbit_36 (by decide) ?_
          refine lv_lconst (v := 1) hx hb dX11_orbit_37 (by decide) ?_
          refine k_i (r_S C h hl (As := [.long w60, .long 0, .long 1]) (rest := []) (s_X11_isIn l D G b0 τ f28 tf28 w60 0 1) mk_X11_isIn w_1624 w_1625 w_1626 ⟨Nat.le_of_ble_eq_true rfl, Nat.le_of_ble_eq_true rfl⟩ rfl (Nat.le_of_ble_eq_true rfl) ⟨Nat.le_of_ble_eq_true rfl, Nat.le_of_ble_eq_true rfl⟩ rfl dX11_orbit_38) h (fun r61 f62 H locs p63 h => ?_)
          have n64 : (0 : Int64).toInt = 0 := rfl
          have n65 : (1 : Int64).toInt = 1 := rfl
          obtain ⟨ir61, tf62, ogf62, cnr61⟩ := p63
          have egf62 := Fr.nil2 ogf62
          subst egf62
          refine lv_if_ne (tgt := 47) hx hb dX11_orbit_41 (by decide) (fun c66 => ?_) (fun c66 => ?_)
          · have c67 : r61.toInt ≠ 0 := fun z_ => c66 (Int32.toInt_inj.mp z_)
            have i68 : iv r61 1 1 := iv_Nl c67 ir61 (by decide)
            obtain ⟨i69, i70⟩ := cnr61 c67
            have i71 : iv u5 0 1 := ⟨by omega, by omega⟩
            exact L47 ls f28 H locs (lv_cons hl 0 rfl (lv_cons hl 1 rfl (lv_cons hl 2 rfl (lv_cons hl 3 rfl (lv_cons hl 4 rfl (lv_cons hl 5 rfl (lv_nil hl))))))) h tf28 of28 i39 i48 i49 (iv_w i59 (by decide))
          · have c72 : r61.toInt = 0 := congrArg Int32.toInt c66
            have i73 : iv r61 0 0 := iv_Q c72 ir61 (iv_k (x := 0) (k := 0) rfl) (by decide)
            refine lv_bipush (v := -2) hx hb dX11_orbit_44 (by decide) ?_
            exact u_iret C h hr hQ (⟨⟨by decide, by decide⟩, tf28, of28⟩) (Nat.le_of_ble_eq_true rfl) (Nat.le_of_ble_eq_true rfl) dX11_orbit_46
abbrev rm_s_X11_groupOf : Room := { frames := 6, cells := 0, slots := 0, locals := 155 }
set_option maxRecDepth 100000 in
set_option maxHeartbeats 4000000 in
theorem s_X11_groupOf (l : Launch) (D : va_G) (G : Nat → Nat) (b0 : Nat) (τ : Nat → Nat) (f : hM) (t : TI G 9 τ f) (u0 : Nat) (hu0 : τ u0 = 60) (u1 : Int32) (hu1 : iv u1 0 7) : mI l yX11_groupOf cX11_groupOf 5 (.int) rm_s_X11_groupOf D G b0 f [.ref u0, .int u1] (fun r f1 => iv r (-1) 40 ∧ TI G 9 τ f1 ∧ Fr [71, 81] τ f f1) := by
  refine met2 (own := RX11) (by decide) rfl (Nat.le_of_ble_eq_true rfl) ?_
  intro p e s m args below meth c ls Q hQ C hr hini hl h
  have hl : lv_has ls 5 [(0, .ref u0), (1, .int u1)] := hl
  obtain ⟨hx, hb, hml, hown, hts, hE0, hlk⟩ := id C
  have o := Fr.rf [71, 81] τ f
  refine lv_aload_n hx hb dX11_groupOf_0 rfl (lv_at hl 0 rfl) ?_
  refine lv_iload_n hx hb dX11_groupOf_1 rfl (lv_at hl 1 rfl) ?_
  refine lv_iconst (v := 2) hx hb dX11_groupOf_2 (by decide) ?_
  refine lv_iconst (v := 3) hx hb dX11_groupOf_3 (by decide) ?_
  obtain ⟨_, r1⟩ := t_rec t hu0 (by decide) wf_60
  refine k_i (r_V C h hl (As := [.int u1, .int 2, .int 3]) (rest := []) (s_X11_laysOrbit l D G b0 τ f t u0 hu0 u1 hu1 2 (iv_w (iv_k (x := 2) (k := 2) rfl) (by decide)) 3 (iv_w (iv_k (x := 3) (k := 3) rfl) (by decide))) r1 (Cn := RX11) (T := TX11) (N := 32) rfl rfl mk_X11_laysOrbit w_1891 w_1893 w_73 w_1894 ⟨Nat.le_of_ble_eq_true rfl, Nat.le_of_ble_eq_true rfl⟩ rfl (Nat.le_of_ble_eq_true rfl) ⟨Nat.le_of_ble_eq_true rfl, Nat.le_of_ble_eq_true rfl⟩ rfl dX11_groupOf_4) h (fun r2 f3 H locs p4 h => ?_)
  obtain ⟨ir2, tf3, ogf3⟩ := p4
  have of3 : Fr [71, 81] τ f f3 := Fr.tr o ogf3 (by decide) (by decide)
  refine lv_istore_n (lv' := [(2, .int r2), (0, .ref u0), (1, .int u1)]) hx hb dX11_groupOf_7 rfl hl (by decide) rfl (fun ls hl => ?_)
  refine lv_aload_n hx hb dX11_groupOf_8 rfl (lv_at hl 1 rfl) ?_
  refine lv_iload_n hx hb dX11_groupOf_9 rfl (lv_at hl 2 rfl) ?_
  refine lv_iconst (v := 5) hx hb dX11_groupOf_10 (by decide) ?_
  refine lv_bipush (v := 7) hx hb dX11_groupOf_11 (by decide) ?_
  obtain ⟨_, r5⟩ := t_rec tf3 hu0 (by decide) wf_60
  refine k_i (r_V C h hl (As := [.int u1, .int 5, .int 7]) (rest := []) (s_X11_laysOrbit l D G b0 τ f3 tf3 u0 hu0 u1 hu1 5 (iv_w (iv_k (x := 5) (k := 5) rfl) (by decide)) 7 (iv_w (iv_k (x := 7) (k := 7) rfl) (by decide))) r5 (Cn := RX11) (T := TX11) (N := 32) rfl rfl mk_X11_laysOrbit w_1891 w_1893 w_73 w_1894 ⟨Nat.le_of_ble_eq_true rfl, Nat.le_of_ble_eq_true rfl⟩ rfl (Nat.le_of_ble_eq_true rfl) ⟨Nat.le_of_ble_eq_true rfl, Nat.le_of_ble_eq_true rfl⟩ rfl dX11_groupOf_13) h (fun r6 f7 H locs p8 h => ?_)
  obtain ⟨ir6, tf7, ogf7⟩ := p8
  have of7 : Fr [71, 81] τ f f7 := Fr.tr of3 ogf7 (by decide) (by decide)
  refine lv_istore_n (lv' := [(3, .int r6), (2, .int r2), (0, .ref u0), (1, .int u1)]) hx hb dX11_groupOf_16 rfl hl (by decide) rfl (fun ls hl => ?_)
  refine lv_aload_n hx hb dX11_groupOf_17 rfl (lv_at hl 2 rfl) ?_
  refine lv_iload_n hx hb dX11_groupOf_18 rfl (lv_at hl 3 rfl) ?_
  refine lv_bipush (v := 11) hx hb dX11_groupOf_19 (by decide) ?_
  refine lv_bipush (v := 13) hx hb dX11_groupOf_21 (by decide) ?_
  obtain ⟨_, r9⟩ := t_rec tf7 hu0 (by decide) wf_60
  refine k_i (r_V C h hl (As := [.int u1, .int 11, .int 13]) (rest := []) (s_X11_laysOrbit l D G b0 τ f7 tf7 u0 hu0 u1 hu1 11 (iv_w (iv_k (x := 11) (k := 11) rfl) (by decide)) 13 (iv_w (iv_k (x := 13) (k := 13) rfl) (by decide))) r9 (Cn := RX11) (T := TX11) (N := 32) rfl rfl mk_X11_laysOrbit w_1891 w_1893 w_73 w_1894 ⟨Nat.le_of_ble_eq_true rfl, Nat.le_of_ble_eq_true rfl⟩ rfl (Nat.le_of_ble_eq_true rfl) ⟨Nat.le_of_ble_eq_true rfl, Nat.le_of_ble_eq_true rfl⟩ rfl dX11_groupOf_23) h (fun r10 f11 H locs p12 h => ?_)
  obtain ⟨ir10, tf11, ogf11⟩ := p12
  have of11 : Fr [71, 81] τ f f11 := Fr.tr of7 ogf11 (by decide) (by decide)
  refine lv_istore (lv' := [(4, .int r10), (3, .int r6), (2, .int r2), (0, .ref u0), (1, .int u1)]) hx hb dX11_groupOf_26 hl (by decide) rfl (fun ls hl => ?_)
  refine lv_iload_n hx hb dX11_groupOf_28 rfl (lv_at hl 2 rfl) ?_
  refine lv_iconst (v := -1) hx hb dX11_groupOf_29 (by decide) ?_
  refine lv_icmp_eq (tgt := 44) hx hb dX11_groupOf_30 (by decide) (fun c13 => ?_) (fun c13 => ?_)
  · have c14 : r2.toInt = (-1) := congrArg Int32.toInt c13
    have i15 : iv r2 (-1) (-1) := iv_Q c14 ir2 (iv_k (x := (-1)) (k := (-1)) rfl) (by decide)
    refine lv_iconst (v := -1) hx hb dX11_groupOf_44 (by decide) ?_
    refine lv_goto (tgt := 58) hx hb dX11_groupOf_45 (by decide) ?_
    exact u_iret C h hr hQ (⟨⟨by decide, by decide⟩, tf11, of11⟩) (Nat.le_of_ble_eq_true rfl) (Nat.le_of_ble_eq_true rfl) dX11_groupOf_58
  · have c16 : r2.toInt ≠ (-1) := fun z_ => c13 (Int32.toInt_inj.mp z_)
    have i17 : iv r2 0 40 := iv_Nl c16 ir2 (by decide)
    refine lv_iload_n hx hb dX11_groupOf_33 rfl (lv_at hl 1 rfl) ?_
    refine lv_iconst (v := -1) hx hb dX11_groupOf_34 (by decide) ?_
    refine lv_icmp_eq (tgt := 44) hx hb dX11_groupOf_35 (by decide) (fun c18 => ?_) (fun c18 => ?_)
    · have c19 : r6.toInt = (-1) := congrArg Int32.toInt c18
      have i20 : iv r6 (-1) (-1) := iv_Q c19 ir6 (iv_k (x := (-1)) (k := (-1)) rfl) (by decide)
      refine lv_iconst (v := -1) hx hb dX11_groupOf_44 (by decide) ?_
      refine lv_goto (tgt := 58) hx hb dX11_groupOf_45 (by decide) ?_
      exact u_iret C h hr hQ (⟨⟨by decide, by decide⟩, tf11, of11⟩) (Nat.le_of_ble_eq_true rfl) (Nat.le_of_ble_eq_true rfl) dX11_groupOf_58
    · have c21 : r6.toInt ≠ (-1) := fun z_ => c18 (Int32.toInt_inj.mp z_)
      have i22 : iv r6 0 40 := iv_Nl c21 ir6 (by decide)
      refine lv_iload hx hb dX11_groupOf_38 (lv_at hl 0 rfl) ?_
      refine lv_iconst (v := -1) hx hb dX11_groupOf_40 (by decide) ?_
      refine lv_icmp_ne (tgt := 48) hx hb dX11_groupOf_41 (by decide) (fun c23 => ?_) (fun c23 => ?_)
      · have c24 : r10.toInt ≠ (-1) := fun z_ => c23 (Int32.toInt_inj.mp z_)
        have i25 : iv r10 0 40 := iv_Nl c24 ir10 (by decide)
        refine lv_iload_n hx hb dX11_groupOf_48 rfl (lv_at hl 2 rfl) ?_
        refine lv_iload_n hx hb dX11_groupOf_49 rfl (lv_at hl 1 rfl) ?_
        refine lv_iload hx hb dX11_groupOf_50 (lv_at hl 0 rfl) ?_
        refine va_mmax hx hb (hml.trans hl.1.symm) hown (hts _ w_1903) (hts _ w_453) (hts _ w_112) (hts _ w_454) (Nat.le_of_ble_eq_true rfl) (Nat.le_of_ble_eq_true rfl) (Nat.le_of_ble_eq_true rfl) (Nat.le_of_ble_eq_true rfl) dX11_groupOf_52 (i_max i22 i25 (lo := 0) (hi := 40) (by decide) (fun z28 mz28 iz28 => ?_))
        refine va_mmax hx hb (hml.trans hl.1.symm) hown (hts _ w_1903) (hts _ w_453) (hts _ w_112) (hts _ w_454) (Nat.le_of_ble_eq_true rfl) (Nat.le_of_ble_eq_true rfl) (Nat.le_of_ble_eq_true rfl) (Nat.le_of_ble_eq_true rfl) dX11_groupOf_55 (i_max i17 iz28 (lo := 0) (hi := 40) (by decide) (fun z29 mz29 iz29 => ?_))
        exact u_iret C h hr hQ (⟨(iv_w iz29 (by decide)), tf11, of11⟩) (Nat.le_of_ble_eq_true rfl) (Nat.le_of_ble_eq_true rfl) dX11_groupOf_58
      · have c26 : r10.toInt = (-1) := congrArg Int32.toInt c23
        have i27 : iv r10 (-1) (-1) := iv_Q c26 ir10 (iv_k (x := (-1)) (k := (-1)) rfl) (by decide)
        refine lv_iconst (v := -1) hx hb dX11_groupOf_44 (by decide) ?_
        refine lv_goto (tgt := 58) hx hb dX11_groupOf_45 (by decide) ?_
        exact u_iret C h hr hQ (⟨⟨by decide, by decide⟩, tf11, of11⟩) (Nat.le_of_ble_eq_true rfl) (Nat.le_of_ble_eq_true rfl) dX11_groupOf_58
abbrev rm_s_X11_group : Room := { frames := 7, cells := 0, slots := 0, locals := 179 }
set_option maxRecDepth 100000 in
set_option maxHeartbeats 4000000 in
theorem s_X11_group (l : Launch) (D : va_G) (G : Nat → Nat) (b0 : Nat) (τ : Nat → Nat) (f : hM) (t : TI G 9 τ f) (u0 : Nat) (hu0 : τ u0 = 60) (u1 : Int32) (hu1 : iv u1 (-2147483648) 2147483647) : mI l yX11_group cX11_group 2 (.int) rm_s_X11_group D G b0 f [.ref u0, .int u1] (fun r f1 => iv r (-2) 40 ∧ TI G 9 τ f1 ∧ Fr [60, 71, 81, 60001] τ f f1) := by
  refine met2 (own := RX11) (by decide) rfl (Nat.le_of_ble_eq_true rfl) ?_
  intro p e s m args below meth c ls Q hQ C hr hini hl h
  have hl : lv_has ls 2 [(0, .ref u0), (1, .int u1)] := hl
  obtain ⟨hx, hb, hml, hown, hts, hE0, hlk⟩ := id C
  have o := Fr.rf [60, 71, 81, 60001] τ f
  refine lv_aload_n hx hb dX11_group_0 rfl (lv_at hl 0 rfl) ?_
  refine lv_iconst (v := 0) hx hb dX11_group_1 (by decide) ?_
  refine t_put C h t o hu0 (by decide) (by decide) (by decide) wf_60 fw_60 (k := 0) rfl flw_X11_75 (Or.inr ⟨_, _, _, rfl, rfl⟩) (v := .int 0) rfl rfl ⟨_, rfl, ⟨by decide, by decide⟩⟩ dX11_group_2 (fun f1 H locs h tf1 of1 hq ha_ hn_ hk_ => ?_)
  have k2 := ha_
  refine lv_aload_n hx hb dX11_group_5 rfl (lv_at hl 0 rfl) ?_
  refine lv_iload_n hx hb dX11_group_6 rfl (lv_at hl 1 rfl) ?_
  obtain ⟨_, r3⟩ := t_rec tf1 hu0 (by decide) wf_60
  refine k_i (r_V C h hl (As := [.int u1]) (rest := []) (s_X11_isSet l D G b0 τ f1 tf1 u0 hu0 u1 hu1) r3 (Cn := RX11) (T := TX11) (N := 32) rfl rfl mk_X11_isSet w_1620 w_1622 w_51 w_1623 ⟨Nat.le_of_ble_eq_true rfl, Nat.le_of_ble_eq_true rfl⟩ rfl (Nat.le_of_ble_eq_true rfl) ⟨Nat.le_of_ble_eq_true rfl, Nat.le_of_ble_eq_true rfl⟩ rfl dX11_group_7) h (fun r4 f5 H locs p6 h => ?_)
  obtain ⟨ir4, tf5, ogf5, cnr4⟩ := p6
  have egf5 := Fr.nil2 ogf5
  subst egf5
  refine lv_if_eq (tgt := 21) hx hb dX11_group_10 (by decide) (fun c7 => ?_) (fun c7 => ?_)
  · have c8 : r4.toInt = 0 := congrArg Int32.toInt c7
    have i9 : iv r4 0 0 := iv_Q c8 ir4 (iv_k (x := 0) (k := 0) rfl) (by decide)
    refine lv_bipush (v := -2) hx hb dX11_group_21 (by decide) ?_
    exact u_iret C h hr hQ (⟨⟨by decide, by decide⟩, tf1, of1⟩) (Nat.le_of_ble_eq_true rfl) (Nat.le_of_ble_eq_true rfl) dX11_group_23
  · have c10 : r4.toInt ≠ 0 := fun z_ => c7 (Int32.toInt_inj.mp z_)
    have i11 : iv r4 1 1 := iv_Nl c10 ir4 (by decide)
    have i12 := cnr4 c10
    refine lv_aload_n hx hb dX11_group_13 rfl (lv_at hl 0 rfl) ?_
    refine lv_iload_n hx hb dX11_group_14 rfl (lv_at hl 1 rfl) ?_
    obtain ⟨_, r13⟩ := t_rec tf1 hu0 (by decide) wf_60
    refine k_i (r_V C h hl (As := [.int u1]) (rest := []) (s_X11_groupOf l D G b0 τ f1 tf1 u0 hu0 u1 i12) r13 (Cn := RX11) (T := TX11) (N := 32) rfl rfl mk_X11_groupOf w_1899 w_1901 w_74 w_1902 ⟨Nat.le_of_ble_eq_true rfl, Nat.le_of_ble_eq_true rfl⟩ rfl (Nat.le_of_ble_eq_true rfl) ⟨Nat.le_of_ble_eq_true rfl, Nat.le_of_ble_eq_true rfl⟩ rfl dX11_group_15) h (fun r14 f15 H locs p16 h => ?_)
    obtain ⟨ir14, tf15, ogf15⟩ := p16
    have of15 : Fr [60, 71, 81, 60001] τ f f15 := Fr.tr of1 ogf15 (by decide) (by decide)
    refine lv_goto (tgt := 23) hx hb dX11_group_18 (by decide) ?_
    exact u_iret C h hr hQ (⟨(iv_w ir14 (by decide)), tf15, of15⟩) (Nat.le_of_ble_eq_true rfl) (Nat.le_of_ble_eq_true rfl) dX11_group_23
abbrev rm_s_X11_sum : Room := { frames := 6, cells := 0, slots := 0, locals := 155 }
set_option maxRecDepth 100000 in
set_option maxHeartbeats 4000000 in
theorem s_X11_sum (l : Launch) (D : va_G) (G : Nat → Nat) (b0 : Nat) (τ : Nat → Nat) (f : hM) (t : TI G 9 τ f) (u0 : Nat) (hu0 : τ u0 = 60) (u1 : Int32) (hu1 : iv u1 (-2147483648) 2147483647) (u2 : Int32) (hu2 : iv u2 (-2147483648) 2147483647) (u3 : Int32) (hu3 : iv u3 (-2147483648) 2147483647) : mI l yX11_sum cX11_sum 10 (.int) rm_s_X11_sum D G b0 f [.ref u0, .int u1, .int u2, .int u3] (fun r f1 => iv r (-1000002) 1000002 ∧ TI G 9 τ f1 ∧ Fr [60, 71, 81, 60001] τ f f1) := by
  refine met2 (own := RX11) (by decide) rfl (Nat.le_of_ble_eq_true rfl) ?_
  intro p e s m args below meth c ls Q hQ C hr hini hl h
  have hl : lv_has ls 10 [(0, .ref u0), (1, .int u1), (2, .int u2), (3, .int u3)] := hl
  obtain ⟨hx, hb, hml, hown, hts, hE0, hlk⟩ := id C
  have o := Fr.rf [60, 71, 81, 60001] τ f
  have L47 : ∀ (n47 : Nat) (ls : Array Slot) (f_47 : hM) (H : Heap) (locs : List Loc) (v47_4 : Int32) (v47_5 : Int64) (v47_7 : Int32), 40 - v47_7.toInt < (n47 : Int) → lv_has ls 10 [(0, .ref u0), (4, .int v47_4), (5, .long v47_5), (7, .int v47_7)] → hw D b0 s.heap f_47 H locs → TI G 9 τ f_47 → Fr [60, 71, 81, 60001] τ f f_47 → iv v47_4 0 40 → iv v47_7 0 40 → W p l e rm_s_X11_sum s m args below meth c H locs 0 0 Q (F0 m 47 ls []) := by
    intro n47
    induction n47 with
    | zero => intro ls f_47 H locs v47_4 v47_5 v47_7 hm47 hl h t_47 o_47 iv47_4 iv47_7; exact absurd hm47 (by omega)
    | succ n47 ih47 =>
      intro ls f_47 H locs v47_4 v47_5 v47_7 hm47 hl h t_47 o_47 iv47_4 iv47_7
      refine lv_iload hx hb dX11_sum_47 (lv_at hl 3 rfl) ?_
      refine lv_iload hx hb dX11_sum_49 (lv_at hl 1 rfl) ?_
      refine lv_icmp_ge (tgt := 106) hx hb dX11_sum_51 (by decide) (fun c1 => ?_) (fun c1 => ?_)
      · have c2 : v47_4.toInt ≤ v47_7.toInt := Int32.le_iff_toInt_le.mp c1
        refine lv_lload hx hb dX11_sum_106 (lv_at hl 2 rfl) ?_
        refine lv_ldc2 (v := 1000003) hx hb hown (hts _ w_1719) dX11_sum_108 ?_
        refine lv_lrem hx hb dX11_sum_111 (by decide) (i_topl (lrem_iv (k := 1000003) rfl (by decide) (lo := -1000002) (hi := 1000002) (by decide)) (fun w6 ew6 iw6 => ?_))
        refine lv_l2i hx hb dX11_sum_112 rfl (i_top (iv_l2i iw6 (by decide)) (fun z7 ez7 iz7 => ?_))
        exact u_iret C h hr hQ (⟨iz7, t_47, o_47⟩) (Nat.le_of_ble_eq_true rfl) (Nat.le_of_ble_eq_true rfl) dX11_sum_113
      · have c3 : v47_7.toInt < v47_4.toInt := Int32.lt_iff_toInt_lt.mp (iv_nle c1)
        have i4 : iv v47_7 0 39 := iv_Ll c3 iv47_7 iv47_4 (by decide)
        have i5 : iv v47_4 1 40 := iv_Lr c3 iv47_7 iv47_4 (by decide)
        refine lv_aload_n hx hb dX11_sum_54 rfl (lv_at hl 0 rfl) ?_
        refine t_getr (tq := 71) C h t_47 hu0 (by decide) wf_60 rfl fl_X11_48 dX11_sum_55 (fun q8 tq8 => ?_)
        refine lv_iload hx hb dX11_sum_58 (lv_at hl 3 rfl) ?_
        refine t_iald C h t_47 tq8 (by decide) wf_71 (iv_in i4 (by decide)) dX11_sum_60 (fun z9 iz9 => ?_)
        refine lv_i2l hx hb dX11_sum_61 rfl (i_topL iz9 (fun w10 ew10 mw10 iw10 => ?_))
        refine lv_aload_n hx hb dX11_sum_62 rfl (lv_at hl 0 rfl) ?_
        refine t_getr (tq := 81) C h t_47 hu0 (by decide) wf_60 rfl fl_X11_51 dX11_sum_63 (fun q11 tq11 => ?_)
        refine lv_iload hx hb dX11_sum_66 (lv_at hl 3 rfl) ?_
        refine t_iald C h t_47 tq11 (by decide) wf_81 (iv_in i4 (by decide)) dX11_sum_68 (fun z12 iz12 => ?_)
        refine lv_i2l hx hb dX11_sum_69 rfl (i_topL iz12 (fun w13 ew13 mw13 iw13 => ?_))
        refine lv_lmul hx hb dX11_sum_70 (lv_topl (fun w14 ew14 => ?_))
        refine lv_ldc2 (v := 1000003) hx hb hown (hts _ w_1719) dX11_sum_71 ?_
        refine lv_lrem hx hb dX11_sum_74 (by decide) (i_topl (lrem_iv (k := 1000003) rfl (by decide) (lo := -1000002) (hi := 1000002) (by decide)) (fun w15 ew15 iw15 => ?_))
        refine lv_lstore (lv' := [(8, .long w15), (0, .ref u0), (4, .int v47_4), (5, .long v47_5), (7, .int v47_7)]) hx hb dX11_sum_75 hl (by decide) rfl (fun ls hl => ?_)
        refine lv_lload hx hb dX11_sum_77 (lv_at hl 3 rfl) ?_
        refine lv_iload hx hb dX11_sum_79 (lv_at hl 4 rfl) ?_
        refine lv_iconst (v := 2) hx hb dX11_sum_81 (by decide) ?_
        refine lv_irem hx hb dX11_sum_82 (by decide) (i_topm (P := fun q_ => q_ < Int32.toInt 2 ∧ q_ ≤ Int32.toInt v47_7) (iv_remm (iv_w i4 (by decide) : iv _ 0 39) (iv_k (x := 2) (k := 2) rfl) (by decide)) (fun z16 ez16 mz16 iz16 => ?_))
        refine lv_if_ne (tgt := 91) hx hb dX11_sum_83 (by decide) (fun c17 => ?_) (fun c17 => ?_)
        · have c18 : z16.toInt ≠ 0 := fun z_ => c17 (Int32.toInt_inj.mp z_)
          have i19 : iv z16 1 1 := iv_Nl c18 iz16 (by decide)
          refine lv_ldc2 (v := 1000003) hx hb hown (hts _ w_1719) dX11_sum_91 ?_
          refine lv_lload hx hb dX11_sum_94 (lv_at hl 0 rfl) ?_
          refine lv_lsub hx hb dX11_sum_96 (lv_topl (fun w22 ew22 => ?_))
          refine lv_ladd hx hb dX11_sum_97 (lv_topl (fun w23 ew23 => ?_))
          refine lv_lstore (lv' := [(5, .long w23), (8, .long w15), (0, .ref u0), (4, .int v47_4), (7, .int v47_7)]) hx hb dX11_sum_98 hl (by decide) rfl (fun ls hl => ?_)
          refine i_inc hx hb dX11_sum_100 hl (k := 4) rfl i4 rfl (lo := 1) (hi := 40) (by decide) (by decide) (lv' := fun v => [(7, .int v), (5, .long w23), (8, .long w15), (0, .ref u0), (4, .int v47_4)]) (fun _ => rfl) (fun z24 ls ez24 mz24 iz24 hl => ?_)
          refine lv_goto (tgt := 47) hx hb dX11_sum_103 (by decide) ?_
          exact ih47 ls f_47 H locs v47_4 w23 z24 (show 40 - z24.toInt < _ by omega) (lv_cons hl 3 rfl (lv_cons hl 4 rfl (lv_cons hl 1 rfl (lv_cons hl 0 rfl (lv_nil hl))))) h t_47 o_47 (iv_w i5 (by decide)) (iv_w iz24 (by decide))
        · have c20 : z16.toInt = 0 := congrArg Int32.toInt c17
          have i21 : iv z16 0 0 := iv_Q c20 iz16 (iv_k (x := 0) (k := 0) rfl) (by decide)
          refine lv_lload hx hb dX11_sum_86 (lv_at hl 0 rfl) ?_
          refine lv_goto (tgt := 97) hx hb dX11_sum_88 (by decide) ?_
          refine lv_ladd hx hb dX11_sum_97 (lv_topl (fun w25 ew25 => ?_))
          refine lv_lstore (lv' := [(5, .long w25), (8, .long w15), (0, .ref u0), (4, .int v47_4), (7, .int v47_7)]) hx hb dX11_sum_98 hl (by decide) rfl (fun ls hl => ?_)
          refine i_inc hx hb dX11_sum_100 hl (k := 4) rfl i4 rfl (lo := 1) (hi := 40) (by decide) (by decide) (lv' := fun v => [(7, .int v), (5, .long w25), (8, .long w15), (0, .ref u0), (4, .int v47_4)]) (fun _ => rfl) (fun z26 ls ez26 mz26 iz26 hl => ?_)
          refine lv_goto (tgt := 47) hx hb dX11_sum_103 (by decide) ?_
          exact ih47 ls f_47 H locs v47_4 w25 z26 (show 40 - z26.toInt < _ by omega) (lv_cons hl 3 rfl (lv_cons hl 4 rfl (lv_cons hl 1 rfl (lv_cons hl 0 rfl (lv_nil hl))))) h t_47 o_47 (iv_w i5 (by decide)) (iv_w iz26 (by decide))
  refine lv_aload_n hx hb dX11_sum_0 rfl (lv_at hl 0 rfl) ?_
  refine lv_iconst (v := 0) hx hb dX11_sum_1 (by decide) ?_
  refine t_put C h t o hu0 (by decide) (by decide) (by decide) wf_60 fw_60 (k := 0) rfl flw_X11_75 (Or.inr ⟨_, _, _, rfl, rfl⟩) (v := .int 0) rfl rfl ⟨_, rfl, ⟨by decide, by decide⟩⟩ dX11_sum_2 (fun f27 H locs h tf27 of27 hq ha_ hn_ hk_ => ?_)
  have k28 := ha_
  refine lv_aload_n hx hb dX11_sum_5 rfl (lv_at hl 0 rfl) ?_
  refine lv_iload_n hx hb dX11_sum_6 rfl (lv_at hl 1 rfl) ?_
  obtain ⟨_, r29⟩ := t_rec tf27 hu0 (by decide) wf_60
  refine k_i (r_V C h hl (As := [.int u1]) (rest := []) (s_X11_isSet l D G b0 τ f27 tf27 u0 hu0 u1 hu1) r29 (Cn := RX11) (T := TX11) (N := 32) rfl rfl mk_X11_isSet w_1620 w_1622 w_51 w_1623 ⟨Nat.le_of_ble_eq_true rfl, Nat.le_of_ble_eq_true rfl⟩ rfl (Nat.le_of_ble_eq_true rfl) ⟨Nat.le_of_ble_eq_true rfl, Nat.le_of_ble_eq_true rfl⟩ rfl dX11_sum_7) h (fun r30 f31 H locs p32 h => ?_)
  obtain ⟨ir30, tf31, ogf31, cnr30⟩ := p32
  have egf31 := Fr.nil2 ogf31
  subst egf31
  refine lv_if_eq (tgt := 21) hx hb dX11_sum_10 (by decide) (fun c33 => ?_) (fun c33 => ?_)
  · have c34 : r30.toInt = 0 := congrArg Int32.toInt c33
    have i35 : iv r30 0 0 := iv_Q c34 ir30 (iv_k (x := 0) (k := 0) rfl) (by decide)
    refine lv_bipush (v := -2) hx hb dX11_sum_21 (by decide) ?_
    exact u_iret C h hr hQ (⟨⟨by decide, by decide⟩, tf27, of27⟩) (Nat.le_of_ble_eq_true rfl) (Nat.le_of_ble_eq_true rfl) dX11_sum_23
  · have c36 : r30.toInt ≠ 0 := fun z_ => c33 (Int32.toInt_inj.mp z_)
    have i37 : iv r30 1 1 := iv_Nl c36 ir30 (by decide)
    have i38 := cnr30 c36
    refine lv_iload_n hx hb dX11_sum_13 rfl (lv_at hl 2 rfl) ?_
    refine lv_iload_n hx hb dX11_sum_14 rfl (lv_at hl 3 rfl) ?_
    refine k_i (r_S C h hl (As := [.int u2, .int u3]) (rest := []) (s_X11_isField l D G b0 τ f27 tf27 u2 hu2 u3 hu3) mk_X11_isField w_1869 w_1870 w_1871 ⟨Nat.le_of_ble_eq_true rfl, Nat.le_of_ble_eq_true rfl⟩ rfl (Nat.le_of_ble_eq_true rfl) ⟨Nat.le_of_ble_eq_true rfl, Nat.le_of_ble_eq_true rfl⟩ rfl dX11_sum_15) h (fun r39 f40 H locs p41 h => ?_)
    obtain ⟨ir39, tf40, ogf40, cnr39⟩ := p41
    have egf40 := Fr.nil2 ogf40
    subst egf40
    refine lv_if_ne (tgt := 24) hx hb dX11_sum_18 (by decide) (fun c42 => ?_) (fun c42 => ?_)
    · have c43 : r39.toInt ≠ 0 := fun z_ => c42 (Int32.toInt_inj.mp z_)
      have i44 : iv r39 1 1 := iv_Nl c43 ir39 (by decide)
      obtain ⟨i45, i46⟩ := cnr39 c43
      refine lv_aload_n hx hb dX11_sum_24 rfl (lv_at hl 0 rfl) ?_
      refine lv_iload_n hx hb dX11_sum_25 rfl (lv_at hl 1 rfl) ?_
      refine lv_iload_n hx hb dX11_sum_26 rfl (lv_at hl 2 rfl) ?_
      refine lv_iload_n hx hb dX11_sum_27 rfl (lv_at hl 3 rfl) ?_
      obtain ⟨_, r49⟩ := t_rec tf27 hu0 (by decide) wf_60
      refine k_i (r_V C h hl (As := [.int u1, .int u2, .int u3]) (rest := []) (s_X11_laysOrbit l D G b0 τ f27 tf27 u0 hu0 u1 i38 u2 (iv_w i45 (by decide)) u3 (iv_w i46 (by decide))) r49 (Cn := RX11) (T := TX11) (N := 32) rfl rfl mk_X11_laysOrbit w_1891 w_1893 w_73 w_1894 ⟨Nat.le_of_ble_eq_true rfl, Nat.le_of_ble_eq_true rfl⟩ rfl (Nat.le_of_ble_eq_true rfl) ⟨Nat.le_of_ble_eq_true rfl, Nat.le_of_ble_eq_true rfl⟩ rfl dX11_sum_28) h (fun r50 f51 H locs p52 h => ?_)
      obtain ⟨ir50, tf51, ogf51⟩ := p52
      have of51 : Fr [60, 71, 81, 60001] τ f f51 := Fr.tr of27 ogf51 (by decide) (by decide)
      refine lv_istore (lv' := [(4, .int r50), (0, .ref u0), (1, .int u1), (2, .int u2), (3, .int u3)]) hx hb dX11_sum_31 hl (by decide) rfl (fun ls hl => ?_)
      refine lv_iload hx hb dX11_sum_33 (lv_at hl 0 rfl) ?_
      refine lv_iconst (v := -1) hx hb dX11_sum_35 (by decide) ?_
      refine lv_icmp_ne (tgt := 41) hx hb dX11_sum_36 (by decide) (fun c53 => ?_) (fun c53 => ?_)
      · have c54 : r50.toInt ≠ (-1) := fun z_ => c53 (Int32.toInt_inj.mp z_)
        have i55 : iv r50 0 40 := iv_Nl c54 ir50 (by decide)
        refine lv_lconst (v := 0) hx hb dX11_sum_41 (by decide) ?_
        refine lv_lstore (lv' := [(5, .long 0), (4, .int r50), (0, .ref u0), (1, .int u1), (2, .int u2), (3, .int u3)]) hx hb dX11_sum_42 hl (by decide) rfl (fun ls hl => ?_)
        refine lv_iconst (v := 0) hx hb dX11_sum_44 (by decide) ?_
        refine lv_istore (lv' := [(7, .int 0), (5, .long 0), (4, .int r50), (0, .ref u0), (1, .int u1), (2, .int u2), (3, .int u3)]) hx hb dX11_sum_45 hl (by decide) rfl (fun ls hl => ?_)
        exact L47 41 ls f51 H locs r50 0 0 (by decide) (lv_cons hl 3 rfl (lv_cons hl 2 rfl (lv_cons hl 1 rfl (lv_cons hl 0 rfl (lv_nil hl))))) h tf51 of51 i55 ⟨by decide, by decide⟩
      · have c56 : r50.toInt = (-1) := congrArg Int32.toInt c53
        have i57 : iv r50 (-1) (-1) := iv_Q c56 ir50 (iv_k (x := (-1)) (k := (-1)) rfl) (by decide)
        refine lv_iconst (v := -1) hx hb dX11_sum_39 (by decide) ?_
        exact u_iret C h hr hQ (⟨⟨by decide, by decide⟩, tf51, of51⟩) (Nat.le_of_ble_eq_true rfl) (Nat.le_of_ble_eq_true rfl) dX11_sum_40
    · have c47 : r39.toInt = 0 := congrArg Int32.toInt c42
      have i48 : iv r39 0 0 := iv_Q c47 ir39 (iv_k (x := 0) (k := 0) rfl) (by decide)
      refine lv_bipush (v := -2) hx hb dX11_sum_21 (by decide) ?_
      exact u_iret C h hr hQ (⟨⟨by decide, by decide⟩, tf27, of27⟩) (Nat.le_of_ble_eq_true rfl) (Nat.le_of_ble_eq_true rfl) dX11_sum_23
abbrev rm_s_X11_noUse : Room := { frames := 2, cells := 0, slots := 0, locals := 58 }
set_option maxRecDepth 100000 in
set_option maxHeartbeats 4000000 in
theorem s_X11_noUse (l : Launch) (D : va_G) (G : Nat → Nat) (b0 : Nat) (τ : Nat → Nat) (f : hM) (t : TI G 9 τ f) (u0 : Nat) (hu0 : τ u0 = 60) (u1 : Int32) (hu1 : iv u1 (-2147483648) 2147483647) (hNG : NGs τ f u0) : mI l yX11_noUse cX11_noUse 7 (.int) rm_s_X11_noUse D G b0 f [.ref u0, .int u1] (fun r f1 => iv r (-2147483648) 2147483647 ∧ TI G 9 τ f1 ∧ Fr [60, 67, 60001, 60013, 60014, 60015] τ f f1 ∧ NGs τ f1 u0) := by
  refine met2 (own := RX11) (by decide) rfl (Nat.le_of_ble_eq_true rfl) ?_
  intro p e s m args below meth c ls Q hQ C hr hini hl h
  have hl : lv_has ls 7 [(0, .ref u0), (1, .int u1)] := hl
  obtain ⟨hx, hb, hml, hown, hts, hE0, hlk⟩ := id C
  have o := Fr.rf [60, 67, 60001, 60013, 60014, 60015] τ f
  have L28 : ∀ (n28 : Nat) (ls : Array Slot) (f_28 : hM) (H : Heap) (locs : List Loc) (v28_2 : Int32) (v28_3 : Int32) (g28_u0_14 : Int32), 24 - v28_3.toInt < (n28 : Int) → lv_has ls 7 [(0, .ref u0), (1, .int u1), (2, .int v28_2), (3, .int v28_3)] → hw D b0 s.heap f_28 H locs → TI G 9 τ f_28 → Fr [60, 67, 60001, 60013, 60014, 60015] τ f f_28 → iv u1 0 7 → iv v28_2 (-2147483648) 2147483647 → iv v28_3 0 24 → iv g28_u0_14 0 60 → NGs τ f_28 u0 → atp f_28 u0 (fd 14 (.int g28_u0_14)) → g28_u0_14.toInt = v28_3.toInt → W p l e rm_s_X11_noUse s m args below meth c H locs 0 0 Q (F0 m 28 ls []) := by
    intro n28
    induction n28 with
    | zero => intro ls f_28 H locs v28_2 v28_3 g28_u0_14 hm28 hl h t_28 o_28 jv28_1 iv28_2 iv28_3 ig28_u0_14 k28_u0_NG k28_u0_14 hv28_0; exact absurd hm28 (by omega)
    | succ n28 ih28 =>
      intro ls f_28 H locs v28_2 v28_3 g28_u0_14 hm28 hl h t_28 o_28 jv28_1 iv28_2 iv28_3 ig28_u0_14 k28_u0_NG k28_u0_14 hv28_0
      have L37 : ∀ (n37 : Nat) (ls : Array Slot) (f_37 : hM) (H : Heap) (locs : List Loc) (v37_2 : Int32) (v37_4 : Int32), 75 - v37_4.toInt < (n37 : Int) → lv_has ls 7 [(0, .ref u0), (1, .int u1), (2, .int v37_2), (3, .int v28_3), (4, .int v37_4)] → hw D b0 s.heap f_37 H locs → TI G 9 τ f_37 → Fr [60, 67, 60001, 60013, 60014, 60015] τ f f_37 → iv v37_2 (-2147483648) 2147483647 → iv v28_3 0 23 → iv v37_4 0 75 → NGs τ f_37 u0 → atp f_37 u0 (fd 14 (.int g28_u0_14)) → W p l e rm_s_X11_noUse s m args below meth c H locs 0 0 Q (F0 m 37 ls []) := by
        intro n37
        induction n37 with
        | zero => intro ls f_37 H locs v37_2 v37_4 hm37 hl h t_37 o_37 iv37_2 jv37_3 iv37_4 k37_u0_NG k37_u0_14; exact absurd hm37 (by omega)
        | succ n37 ih37 =>
          intro ls f_37 H locs v37_2 v37_4 hm37 hl h t_37 o_37 iv37_2 jv37_3 iv37_4 k37_u0_NG k37_u0_14
          have L47 : ∀ (n47 : Nat) (ls : Array Slot) (f_47 : hM) (H : Heap) (locs : List Loc) (v47_2 : Int32) (v47_5 : Int32), 75 - v47_5.toInt < (n47 : Int) → lv_has ls 7 [(0, .ref u0), (1, .int u1), (2, .int v47_2), (3, .int v28_3), (4, .int v37_4), (5, .int v47_5)] → hw D b0 s.heap f_47 H locs → TI G 9 τ f_47 → Fr [60, 67, 60001, 60013, 60014, 60015] τ f f_47 → iv v47_2 (-2147483648) 2147483647 → iv v37_4 0 74 → iv v47_5 0 75 → NGs τ f_47 u0 → atp f_47 u0 (fd 14 (.int g28_u0_14)) → W p l e rm_s_X11_noUse s m args below meth c H locs 0 0 Q (F0 m 47 ls []) := by
            intro n47
            induction n47 with
            | zero => intro ls f_47 H locs v47_2 v47_5 hm47 hl h t_47 o_47 iv47_2 jv47_4 iv47_5 k47_u0_NG k47_u0_14; exact absurd hm47 (by omega)
            | succ n47 ih47 =>
              intro ls f_47 H locs v47_2 v47_5 hm47 hl h t_47 o_47 iv47_2 jv47_4 iv47_5 k47_u0_NG k47_u0_14
              have L77 : ∀ (n77 : Nat) (ls : Array Slot) (f_77 : hM) (H : Heap) (locs : List Loc) (v77_2 : Int32) (v77_6 : Int32), 8 - v77_6.toInt < (n77 : Int) → lv_has ls 7 [(0, .ref u0), (1, .int u1), (2, .int v77_2), (3, .int v28_3), (4, .int v37_4), (5, .int v47_5), (6, .int v77_6)] → hw D b0 s.heap f_77 H locs → TI G 9 τ f_77 → Fr [60, 67, 60001, 60013, 60014, 60015] τ f f_77 → iv v77_2 (-2147483648) 2147483647 → iv v47_5 0 74 → iv v77_6 0 8 → NGs τ f_77 u0 → atp f_77 u0 (fd 14 (.int g28_u0_14)) → W p l e rm_s_X11_noUse s m args below meth c H locs 0 0 Q (F0 m 77 ls []) := by
                intro n77
                induction n77 with
                | zero => intro ls f_77 H locs v77_2 v77_6 hm77 hl h t_77 o_77 iv77_2 jv77_5 iv77_6 k77_u0_NG k77_u0_14; exact absurd hm77 (by omega)
                | succ n77 ih77 =>
                  intro ls f_77 H locs v77_2 v77_6 hm77 hl h t_77 o_77 iv77_2 jv77_5 iv77_6 k77_u0_NG k77_u0_14
                  refine lv_iload hx hb dX11_noUse_77 (lv_at hl 6 rfl) ?_
                  refine lv_bipush (v := 8) hx hb dX11_noUse_79 (by decide) ?_
                  refine lv_icmp_ge (tgt := 122) hx hb dX11_noUse_81 (by decide) (fun c1 => ?_) (fun c1 => ?_)
                  · have c2 : 8 ≤ v77_6.toInt := Int32.le_iff_toInt_le.mp c1
                    have i3 : iv v77_6 8 8 := iv_Er c2 (iv_k (x := 8) (k := 8) rfl) iv77_6 (by decide)
                    refine i_inc hx hb dX11_noUse_122 hl (k := 5) rfl jv77_5 rfl (lo := 1) (hi := 75) (by decide) (by decide) (lv' := fun v => [(5, .int v), (0, .ref u0), (1, .int u1), (2, .int v77_2), (3, .int v28_3), (4, .int v37_4), (6, .int v77_6)]) (fun _ => rfl) (fun z6 ls ez6 mz6 iz6 hl => ?_)
                    refine lv_goto (tgt := 47) hx hb dX11_noUse_125 (by decide) ?_
                    exact ih47 ls f_77 H locs v77_2 z6 (show 75 - z6.toInt < _ by omega) (lv_cons hl 1 rfl (lv_cons hl 2 rfl (lv_cons hl 3 rfl (lv_cons hl 4 rfl (lv_cons hl 5 rfl (lv_cons hl 0 rfl (lv_nil hl))))))) h t_77 o_77 iv77_2 jv47_4 (iv_w iz6 (by decide)) k77_u0_NG k77_u0_14
                  · have c4 : v77_6.toInt < 8 := Int32.lt_iff_toInt_lt.mp (iv_nle c1)
                    have i5 : iv v77_6 0 7 := iv_Ll c4 iv77_6 (iv_k (x := 8) (k := 8) rfl) (by decide)
                    refine lv_iconst (v := 0) hx hb dX11_noUse_84 (by decide) ?_
                    refine lv_iload hx hb dX11_noUse_85 (lv_at hl 4 rfl) ?_
                    refine lv_iload hx hb dX11_noUse_87 (lv_at hl 6 rfl) ?_
                    refine k_i (r_S C h hl (As := [.int v77_6]) (rest := [.int v37_4, .int 0]) (s_X11_dx l D G b0 τ f_77 t_77 v77_6 (iv_w i5 (by decide))) mk_X11_dx w_1675 w_1676 w_1677 ⟨Nat.le_of_ble_eq_true rfl, Nat.le_of_ble_eq_true rfl⟩ rfl (Nat.le_of_ble_eq_true rfl) ⟨Nat.le_of_ble_eq_true rfl, Nat.le_of_ble_eq_true rfl⟩ rfl dX11_noUse_89) h (fun r7 f8 H locs p9 h => ?_)
                    obtain ⟨ir7, tf8, ogf8⟩ := p9
                    have egf8 := Fr.nil2 ogf8
                    subst egf8
                    refine i_add hx hb dX11_noUse_92 jv47_4 ir7 (lo := (-1)) (hi := 75) (by decide) (fun z10 ez10 mz10 iz10 => ?_)
                    refine lv_iload hx hb dX11_noUse_93 (lv_at hl 5 rfl) ?_
                    refine lv_iload hx hb dX11_noUse_95 (lv_at hl 6 rfl) ?_
                    refine k_i (r_S C h hl (As := [.int v77_6]) (rest := [.int v47_5, .int z10, .int 0]) (s_X11_dy l D G b0 τ f_77 t_77 v77_6 (iv_w i5 (by decide))) mk_X11_dy w_1678 w_1679 w_1680 ⟨Nat.le_of_ble_eq_true rfl, Nat.le_of_ble_eq_true rfl⟩ rfl (Nat.le_of_ble_eq_true rfl) ⟨Nat.le_of_ble_eq_true rfl, Nat.le_of_ble_eq_true rfl⟩ rfl dX11_noUse_97) h (fun r11 f12 H locs p13 h => ?_)
                    obtain ⟨ir11, tf12, ogf12⟩ := p13
                    have egf12 := Fr.nil2 ogf12
                    subst egf12
                    refine i_add hx hb dX11_noUse_100 jv77_5 ir11 (lo := (-1)) (hi := 75) (by decide) (fun z14 ez14 mz14 iz14 => ?_)
                    refine k_i (r_S C h hl (As := [.int 0, .int z10, .int z14]) (rest := []) (s_X11_isInside l D G b0 τ f_77 t_77 0 (iv_w (iv_k (x := 0) (k := 0) rfl) (by decide)) z10 (iv_w iz10 (by decide)) z14 (iv_w iz14 (by decide))) mk_X11_isInside w_1713 w_1714 w_1715 ⟨Nat.le_of_ble_eq_true rfl, Nat.le_of_ble_eq_true rfl⟩ rfl (Nat.le_of_ble_eq_true rfl) ⟨Nat.le_of_ble_eq_true rfl, Nat.le_of_ble_eq_true rfl⟩ rfl dX11_noUse_101) h (fun r15 f16 H locs p17 h => ?_)
                    have n18 : (0 : Int32).toInt = 0 := rfl
                    obtain ⟨ir15, tf16, ogf16, cnr15⟩ := p17
                    have egf16 := Fr.nil2 ogf16
                    subst egf16
                    refine lv_if_eq (tgt := 116) hx hb dX11_noUse_104 (by decide) (fun c19 => ?_) (fun c19 => ?_)
                    · have c20 : r15.toInt = 0 := congrArg Int32.toInt c19
                      have i21 : iv r15 0 0 := iv_Q c20 ir15 (iv_k (x := 0) (k := 0) rfl) (by decide)
                      refine i_inc hx hb dX11_noUse_116 hl (k := 6) rfl i5 rfl (lo := 1) (hi := 8) (by decide) (by decide) (lv' := fun v => [(6, .int v), (0, .ref u0), (1, .int u1), (2, .int v77_2), (3, .int v28_3), (4, .int v37_4), (5, .int v47_5)]) (fun _ => rfl) (fun z25 ls ez25 mz25 iz25 hl => ?_)
                      refine lv_goto (tgt := 77) hx hb dX11_noUse_119 (by decide) ?_
                      exact ih77 ls f_77 H locs v77_2 z25 (show 8 - z25.toInt < _ by omega) (lv_cons hl 1 rfl (lv_cons hl 2 rfl (lv_cons hl 3 rfl (lv_cons hl 4 rfl (lv_cons hl 5 rfl (lv_cons hl 6 rfl (lv_cons hl 0 rfl (lv_nil hl)))))))) h t_77 o_77 iv77_2 jv77_5 (iv_w iz25 (by decide)) k77_u0_NG k77_u0_14
                    · have c22 : r15.toInt ≠ 0 := fun z_ => c19 (Int32.toInt_inj.mp z_)
                      have i23 : iv r15 1 1 := iv_Nl c22 ir15 (by decide)
                      have i24 := cnr15 c22
                      refine lv_iload_n hx hb dX11_noUse_107 rfl (lv_at hl 2 rfl) ?_
                      refine lv_iconst (v := 1) hx hb dX11_noUse_108 (by decide) ?_
                      refine lv_iload hx hb dX11_noUse_109 (lv_at hl 6 rfl) ?_
                      refine lv_ishl hx hb dX11_noUse_111 (i_top (iv_any _) (fun z26 ez26 iz26 => ?_))
                      refine lv_iconst (v := -1) hx hb dX11_noUse_112 (by decide) ?_
                      refine lv_ixor hx hb dX11_noUse_113 (i_top (iv_any _) (fun z27 ez27 iz27 => ?_))
                      refine lv_iand hx hb dX11_noUse_114 (i_top (iv_any _) (fun z28 ez28 iz28 => ?_))
                      refine lv_istore_n (lv' := [(2, .int z28), (0, .ref u0), (1, .int u1), (3, .int v28_3), (4, .int v37_4), (5, .int v47_5), (6, .int v77_6)]) hx hb dX11_noUse_115 rfl hl (by decide) rfl (fun ls hl => ?_)
                      refine i_inc hx hb dX11_noUse_116 hl (k := 6) rfl i5 rfl (lo := 1) (hi := 8) (by decide) (by decide) (lv' := fun v => [(6, .int v), (2, .int z28), (0, .ref u0), (1, .int u1), (3, .int v28_3), (4, .int v37_4), (5, .int v47_5)]) (fun _ => rfl) (fun z29 ls ez29 mz29 iz29 hl => ?_)
                      refine lv_goto (tgt := 77) hx hb dX11_noUse_119 (by decide) ?_
                      exact ih77 ls f_77 H locs z28 z29 (show 8 - z29.toInt < _ by omega) (lv_cons hl 2 rfl (lv_cons hl 3 rfl (lv_cons hl 1 rfl (lv_cons hl 4 rfl (lv_cons hl 5 rfl (lv_cons hl 6 rfl (lv_cons hl 0 rfl (lv_nil hl)))))))) h t_77 o_77 iz28 jv77_5 (iv_w iz29 (by decide)) k77_u0_NG k77_u0_14
              refine lv_iload hx hb dX11_noUse_47 (lv_at hl 5 rfl) ?_
              refine lv_bipush (v := 75) hx hb dX11_noUse_49 (by decide) ?_
              refine lv_icmp_ge (tgt := 128) hx hb dX11_noUse_51 (by decide) (fun c30 => ?_) (fun c30 => ?_)
              · have c31 : 75 ≤ v47_5.toInt := Int32.le_iff_toInt_le.mp c30
                have i32 : iv v47_5 75 75 := iv_Er c31 (iv_k (x := 75) (k := 75) rfl) iv47_5 (by decide)
                refine i_inc hx hb dX11_noUse_128 hl (k := 4) rfl jv47_4 rfl (lo := 1) (hi := 75) (by decide) (by decide) (lv' := fun v => [(4, .int v), (0, .ref u0), (1, .int u1), (2, .int v47_2), (3, .int v28_3), (5, .int v47_5)]) (fun _ => rfl) (fun z35 ls ez35 mz35 iz35 hl => ?_)
                refine lv_goto (tgt := 37) hx hb dX11_noUse_131 (by decide) ?_
                exact ih37 ls f_47 H locs v47_2 z35 (show 75 - z35.toInt < _ by omega) (lv_cons hl 1 rfl (lv_cons hl 2 rfl (lv_cons hl 3 rfl (lv_cons hl 4 rfl (lv_cons hl 0 rfl (lv_nil hl)))))) h t_47 o_47 iv47_2 jv37_3 (iv_w iz35 (by decide)) k47_u0_NG k47_u0_14
              · have c33 : v47_5.toInt < 75 := Int32.lt_iff_toInt_lt.mp (iv_nle c30)
                have i34 : iv v47_5 0 74 := iv_Ll c33 iv47_5 (iv_k (x := 75) (k := 75) rfl) (by decide)
                refine lv_aload_n hx hb dX11_noUse_54 rfl (lv_at hl 0 rfl) ?_
                refine t_getr (tq := 67) C h t_47 hu0 (by decide) wf_60 rfl fl_X11_29 dX11_noUse_55 (fun q36 tq36 => ?_)
                refine lv_iload hx hb dX11_noUse_58 (lv_at hl 4 rfl) ?_
                refine lv_iload hx hb dX11_noUse_60 (lv_at hl 5 rfl) ?_
                refine k_i (r_S C h hl (As := [.int v37_4, .int v47_5]) (rest := [.ref q36]) (s_X11_cell l D G b0 τ f_47 t_47 v37_4 (iv_w jv47_4 (by decide)) v47_5 (iv_w i34 (by decide))) mk_X11_cell w_1706 w_1707 w_1708 ⟨Nat.le_of_ble_eq_true rfl, Nat.le_of_ble_eq_true rfl⟩ rfl (Nat.le_of_ble_eq_true rfl) ⟨Nat.le_of_ble_eq_true rfl, Nat.le_of_ble_eq_true rfl⟩ rfl dX11_noUse_62) h (fun r37 f38 H locs p39 h => ?_)
                obtain ⟨ir37, tf38, ogf38, x0r37⟩ := p39
                have egf38 := Fr.nil2 ogf38
                subst egf38
                refine t_lald C h t_47 tq36 (by decide) wf_67 (iv_in ir37 (by decide)) dX11_noUse_65 (fun w40 => ?_)
                refine lv_lconst (v := 0) hx hb dX11_noUse_66 (by decide) ?_
                refine W.lcmp hx hb dX11_noUse_67 (i_topc (fun z41 ez41 mz41 iz41 => ?_))
                refine lv_if_ne (tgt := 74) hx hb dX11_noUse_68 (by decide) (fun c42 => ?_) (fun c42 => ?_)
                · have c43 : z41.toInt ≠ 0 := fun z_ => c42 (Int32.toInt_inj.mp z_)
                  refine lv_iconst (v := 0) hx hb dX11_noUse_74 (by decide) ?_
                  refine lv_istore (lv' := [(6, .int 0), (0, .ref u0), (1, .int u1), (2, .int v47_2), (3, .int v28_3), (4, .int v37_4), (5, .int v47_5)]) hx hb dX11_noUse_75 hl (by decide) rfl (fun ls hl => ?_)
                  exact L77 9 ls f_47 H locs v47_2 0 (by decide) (lv_cons hl 1 rfl (lv_cons hl 2 rfl (lv_cons hl 3 rfl (lv_cons hl 4 rfl (lv_cons hl 5 rfl (lv_cons hl 6 rfl (lv_cons hl 0 rfl (lv_nil hl)))))))) h t_47 o_47 iv47_2 i34 ⟨by decide, by decide⟩ k47_u0_NG k47_u0_14
                · have c44 : z41.toInt = 0 := congrArg Int32.toInt c42
                  have i45 : iv z41 0 0 := iv_Q c44 iz41 (iv_k (x := 0) (k := 0) rfl) (by decide)
                  refine lv_goto (tgt := 122) hx hb dX11_noUse_71 (by decide) ?_
                  refine i_inc hx hb dX11_noUse_122 hl (k := 5) rfl i34 rfl (lo := 1) (hi := 75) (by decide) (by decide) (lv' := fun v => [(5, .int v), (0, .ref u0), (1, .int u1), (2, .int v47_2), (3, .int v28_3), (4, .int v37_4)]) (fun _ => rfl) (fun z46 ls ez46 mz46 iz46 hl => ?_)
                  refine lv_goto (tgt := 47) hx hb dX11_noUse_125 (by decide) ?_
                  exact ih47 ls f_47 H locs v47_2 z46 (show 75 - z46.toInt < _ by omega) (lv_cons hl 1 rfl (lv_cons hl 2 rfl (lv_cons hl 3 rfl (lv_cons hl 4 rfl (lv_cons hl 5 rfl (lv_cons hl 0 rfl (lv_nil hl))))))) h t_47 o_47 iv47_2 jv47_4 (iv_w iz46 (by decide)) k47_u0_NG k47_u0_14
          refine lv_iload hx hb dX11_noUse_37 (lv_at hl 4 rfl) ?_
          refine lv_bipush (v := 75) hx hb dX11_noUse_39 (by decide) ?_
          refine lv_icmp_ge (tgt := 134) hx hb dX11_noUse_41 (by decide) (fun c47 => ?_) (fun c47 => ?_)
          · have c48 : 75 ≤ v37_4.toInt := Int32.le_iff_toInt_le.mp c47
            have i49 : iv v37_4 75 75 := iv_Er c48 (iv_k (x := 75) (k := 75) rfl) iv37_4 (by decide)
            refine lv_aload_n hx hb dX11_noUse_134 rfl (lv_at hl 0 rfl) ?_
            refine lv_iload_n hx hb dX11_noUse_135 rfl (lv_at hl 1 rfl) ?_
            refine lv_iconst (v := 0) hx hb dX11_noUse_136 (by decide) ?_
            refine lv_iconst (v := 4) hx hb dX11_noUse_137 (by decide) ?_
            obtain ⟨_, r52⟩ := t_rec t_37 hu0 (by decide) wf_60
            refine k_v (r_V C h hl (As := [.int u1, .int 0, .int 4]) (rest := []) (s_X11_goes l D G b0 τ f_37 t_37 u0 hu0 u1 jv28_1 0 (iv_w (iv_k (x := 0) (k := 0) rfl) (by decide)) 4 (iv_w (iv_k (x := 4) (k := 4) rfl) (by decide)) g28_u0_14 (show iv g28_u0_14 0 59 from by omega) k37_u0_14 k37_u0_NG) r52 (Cn := RX11) (T := TX11) (N := 32) rfl rfl mk_X11_goes w_1709 w_1711 w_59 w_1712 ⟨Nat.le_of_ble_eq_true rfl, Nat.le_of_ble_eq_true rfl⟩ rfl (Nat.le_of_ble_eq_true rfl) ⟨Nat.le_of_ble_eq_true rfl, Nat.le_of_ble_eq_true rfl⟩ rfl dX11_noUse_138) h (fun f54 H locs p55 h => ?_)
            have n56 : (0 : Int32).toInt = 0 := rfl
            have n57 : (4 : Int32).toInt = 4 := rfl
            obtain ⟨tf54, ogf54, ⟨gg_f54, kpu0_14f54, ipu0_14f54, rpu0_14f54⟩, ngf54⟩ := p55
            have of54 : Fr [60, 67, 60001, 60013, 60014, 60015] τ f f54 := Fr.tr o_37 ogf54 (by decide) (by decide)
            refine i_inc hx hb dX11_noUse_141 hl (k := 3) rfl jv37_3 rfl (lo := 1) (hi := 24) (by decide) (by decide) (lv' := fun v => [(3, .int v), (0, .ref u0), (1, .int u1), (2, .int v37_2), (4, .int v37_4)]) (fun _ => rfl) (fun z58 ls ez58 mz58 iz58 hl => ?_)
            refine lv_goto (tgt := 28) hx hb dX11_noUse_144 (by decide) ?_
            exact ih28 ls f54 H locs v37_2 z58 gg_f54 (show 24 - z58.toInt < _ by omega) (lv_cons hl 1 rfl (lv_cons hl 2 rfl (lv_cons hl 3 rfl (lv_cons hl 0 rfl (lv_nil hl))))) h tf54 of54 jv28_1 iv37_2 (iv_w iz58 (by decide)) (iv_w ipu0_14f54 (by decide)) ngf54 kpu0_14f54 (show gg_f54.toInt = z58.toInt by omega)
          · have c50 : v37_4.toInt < 75 := Int32.lt_iff_toInt_lt.mp (iv_nle c47)
            have i51 : iv v37_4 0 74 := iv_Ll c50 iv37_4 (iv_k (x := 75) (k := 75) rfl) (by decide)
            refine lv_iconst (v := 0) hx hb dX11_noUse_44 (by decide) ?_
            refine lv_istore (lv' := [(5, .int 0), (0, .ref u0), (1, .int u1), (2, .int v37_2), (3, .int v28_3), (4, .int v37_4)]) hx hb dX11_noUse_45 hl (by decide) rfl (fun ls hl => ?_)
            exact L47 76 ls f_37 H locs v37_2 0 (by decide) (lv_cons hl 1 rfl (lv_cons hl 2 rfl (lv_cons hl 3 rfl (lv_cons hl 4 rfl (lv_cons hl 5 rfl (lv_cons hl 0 rfl (lv_nil hl))))))) h t_37 o_37 iv37_2 i51 ⟨by decide, by decide⟩ k37_u0_NG k37_u0_14
      refine lv_iload_n hx hb dX11_noUse_28 rfl (lv_at hl 3 rfl) ?_
      refine lv_bipush (v := 24) hx hb dX11_noUse_29 (by decide) ?_
      refine lv_icmp_ge (tgt := 147) hx hb dX11_noUse_31 (by decide) (fun c59 => ?_) (fun c59 => ?_)
      · have c60 : 24 ≤ v28_3.toInt := Int32.le_iff_toInt_le.mp c59
        have i61 : iv v28_3 24 24 := iv_Er c60 (iv_k (x := 24) (k := 24) rfl) iv28_3 (by decide)
        refine lv_iload_n hx hb dX11_noUse_147 rfl (lv_at hl 2 rfl) ?_
        exact u_iret C h hr hQ (⟨iv28_2, t_28, o_28, k28_u0_NG⟩) (Nat.le_of_ble_eq_true rfl) (Nat.le_of_ble_eq_true rfl) dX11_noUse_148
      · have c62 : v28_3.toInt < 24 := Int32.lt_iff_toInt_lt.mp (iv_nle c59)
        have i63 : iv v28_3 0 23 := iv_Ll c62 iv28_3 (iv_k (x := 24) (k := 24) rfl) (by decide)
        refine lv_iconst (v := 0) hx hb dX11_noUse_34 (by decide) ?_
        refine lv_istore (lv' := [(4, .int 0), (0, .ref u0), (1, .int u1), (2, .int v28_2), (3, .int v28_3)]) hx hb dX11_noUse_35 hl (by decide) rfl (fun ls hl => ?_)
        exact L37 76 ls f_28 H locs v28_2 0 (by decide) (lv_cons hl 1 rfl (lv_cons hl 2 rfl (lv_cons hl 3 rfl (lv_cons hl 4 rfl (lv_cons hl 0 rfl (lv_nil hl)))))) h t_28 o_28 iv28_2 i63 ⟨by decide, by decide⟩ k28_u0_NG k28_u0_14
  refine lv_aload_n hx hb dX11_noUse_0 rfl (lv_at hl 0 rfl) ?_
  refine lv_iconst (v := 0) hx hb dX11_noUse_1 (by decide) ?_
  refine t_put C h t o hu0 (by decide) (by decide) (by decide) wf_60 fw_60 (k := 0) rfl flw_X11_75 (Or.inr ⟨_, _, _, rfl, rfl⟩) (v := .int 0) rfl rfl ⟨_, rfl, ⟨by decide, by decide⟩⟩ dX11_noUse_2 (fun f64 H locs h tf64 of64 hq ha_ hn_ hk_ => ?_)
  have k65 := NGs.pk hNG hk_ (by decide) (by decide)
  have k66 := ha_
  refine lv_aload_n hx hb dX11_noUse_5 rfl (lv_at hl 0 rfl) ?_
  refine lv_iload_n hx hb dX11_noUse_6 rfl (lv_at hl 1 rfl) ?_
  obtain ⟨_, r67⟩ := t_rec tf64 hu0 (by decide) wf_60
  refine k_i (r_V C h hl (As := [.int u1]) (rest := []) (s_X11_isSet l D G b0 τ f64 tf64 u0 hu0 u1 hu1) r67 (Cn := RX11) (T := TX11) (N := 32) rfl rfl mk_X11_isSet w_1620 w_1622 w_51 w_1623 ⟨Nat.le_of_ble_eq_true rfl, Nat.le_of_ble_eq_true rfl⟩ rfl (Nat.le_of_ble_eq_true rfl) ⟨Nat.le_of_ble_eq_true rfl, Nat.le_of_ble_eq_true rfl⟩ rfl dX11_noUse_7) h (fun r68 f69 H locs p70 h => ?_)
  obtain ⟨ir68, tf69, ogf69, cnr68⟩ := p70
  have egf69 := Fr.nil2 ogf69
  subst egf69
  refine lv_if_ne (tgt := 15) hx hb dX11_noUse_10 (by decide) (fun c71 => ?_) (fun c71 => ?_)
  · have c72 : r68.toInt ≠ 0 := fun z_ => c71 (Int32.toInt_inj.mp z_)
    have i73 : iv r68 1 1 := iv_Nl c72 ir68 (by decide)
    have i74 := cnr68 c72
    refine lv_aload_n hx hb dX11_noUse_15 rfl (lv_at hl 0 rfl) ?_
    refine lv_iload_n hx hb dX11_noUse_16 rfl (lv_at hl 1 rfl) ?_
    obtain ⟨_, r77⟩ := t_rec tf64 hu0 (by decide) wf_60
    refine k_i (r_V C h hl (As := [.int u1]) (rest := []) (s_X11_bitsOf l D G b0 τ f64 tf64 u0 hu0 u1 i74) r77 (Cn := RX11) (T := TX11) (N := 32) rfl rfl mk_X11_bitsOf w_1681 w_1683 w_56 w_1684 ⟨Nat.le_of_ble_eq_true rfl, Nat.le_of_ble_eq_true rfl⟩ rfl (Nat.le_of_ble_eq_true rfl) ⟨Nat.le_of_ble_eq_true rfl, Nat.le_of_ble_eq_true rfl⟩ rfl dX11_noUse_17) h (fun r78 f79 H locs p80 h => ?_)
    obtain ⟨ir78, tf79, ogf79⟩ := p80
    have egf79 := Fr.nil2 ogf79
    subst egf79
    refine lv_istore_n (lv' := [(2, .int r78), (0, .ref u0), (1, .int u1)]) hx hb dX11_noUse_20 rfl hl (by decide) rfl (fun ls hl => ?_)
    refine lv_aload_n hx hb dX11_noUse_21 rfl (lv_at hl 1 rfl) ?_
    refine lv_iload_n hx hb dX11_noUse_22 rfl (lv_at hl 2 rfl) ?_
    obtain ⟨_, r81⟩ := t_rec tf64 hu0 (by decide) wf_60
    refine k_v (r_V C h hl (As := [.int u1]) (rest := []) (s_X11_begins l D G b0 τ f64 tf64 u0 hu0 u1 i74) r81 (Cn := RX11) (T := TX11) (N := 32) rfl rfl mk_X11_begins w_1702 w_1704 w_58 w_1705 ⟨Nat.le_of_ble_eq_true rfl, Nat.le_of_ble_eq_true rfl⟩ rfl (Nat.le_of_ble_eq_true rfl) ⟨Nat.le_of_ble_eq_true rfl, Nat.le_of_ble_eq_true rfl⟩ rfl dX11_noUse_23) h (fun f83 H locs p84 h => ?_)
    obtain ⟨tf83, ogf83, ⟨gg_f83, kpu0_14f83, ipu0_14f83, rpu0_14f83⟩⟩ := p84
    have of83 : Fr [60, 67, 60001, 60013, 60014, 60015] τ f f83 := Fr.tr of64 ogf83 (by decide) (by decide)
    have k85 := NGs.fr k65 ogf83 hu0 (by decide)
    refine lv_iconst (v := 0) hx hb dX11_noUse_26 (by decide) ?_
    refine lv_istore_n (lv' := [(3, .int 0), (2, .int r78), (0, .ref u0), (1, .int u1)]) hx hb dX11_noUse_27 rfl hl (by decide) rfl (fun ls hl => ?_)
    exact L28 25 ls f83 H locs r78 0 gg_f83 (by decide) (lv_cons hl 2 rfl (lv_cons hl 3 rfl (lv_cons hl 1 rfl (lv_cons hl 0 rfl (lv_nil hl))))) h tf83 of83 i74 ir78 ⟨by decide, by decide⟩ (iv_w ipu0_14f83 (by decide)) k85 kpu0_14f83 (show gg_f83.toInt = 0 by omega)
  · have c75 : r68.toInt = 0 := congrArg Int32.toInt c71
    have i76 : iv r68 0 0 := iv_Q c75 ir68 (iv_k (x := 0) (k := 0) rfl) (by decide)
    refine lv_iconst (v := -1) hx hb dX11_noUse_13 (by decide) ?_
    exact u_iret C h hr hQ (⟨⟨by decide, by decide⟩, tf64, of64, k65⟩) (Nat.le_of_ble_eq_true rfl) (Nat.le_of_ble_eq_true rfl) dX11_noUse_14
abbrev rm_s_X11_isAsMany : Room := { frames := 4, cells := 0, slots := 0, locals := 100 }
set_option maxRecDepth 100000 in
set_option maxHeartbeats 4000000 in
theorem s_X11_isAsMany (l : Launch) (D : va_G) (G : Nat → Nat) (b0 : Nat) (τ : Nat → Nat) (f : hM) (t : TI G 9 τ f) (u0 : Nat) (hu0 : τ u0 = 60) (u1 : Int32) (hu1 : iv u1 0 7) (u2 : Int32) (hu2 : iv u2 (-2147483648) 2147483647) (hNG : NGs τ f u0) : mI l yX11_isAsMany cX11_isAsMany 4 (.boolean) rm_s_X11_isAsMany D G b0 f [.ref u0, .int u1, .int u2] (fun r f1 => iv r 0 1 ∧ TI G 9 τ f1 ∧ Fr [60, 67, 69, 78, 60013, 60014, 60015] τ f f1 ∧ NGs τ f1 u0) := by
  refine met2 (own := RX11) (by decide) rfl (Nat.le_of_ble_eq_true rfl) ?_
  intro p e s m args below meth c ls Q hQ C hr hini hl h
  have hl : lv_has ls 4 [(0, .ref u0), (1, .int u1), (2, .int u2)] := hl
  obtain ⟨hx, hb, hml, hown, hts, hE0, hlk⟩ := id C
  have o := Fr.rf [60, 67, 69, 78, 60013, 60014, 60015] τ f
  have L28 : ∀ (n28 : Nat) (ls : Array Slot) (f_28 : hM) (H : Heap) (locs : List Loc) (v28_3 : Int32), 13 - v28_3.toInt < (n28 : Int) → lv_has ls 4 [(0, .ref u0), (3, .int v28_3)] → hw D b0 s.heap f_28 H locs → TI G 9 τ f_28 → Fr [60, 67, 69, 78, 60013, 60014, 60015] τ f f_28 → iv v28_3 0 13 → NGs τ f_28 u0 → W p l e rm_s_X11_isAsMany s m args below meth c H locs 0 0 Q (F0 m 28 ls []) := by
    intro n28
    induction n28 with
    | zero => intro ls f_28 H locs v28_3 hm28 hl h t_28 o_28 iv28_3 k28_u0_NG; exact absurd hm28 (by omega)
    | succ n28 ih28 =>
      intro ls f_28 H locs v28_3 hm28 hl h t_28 o_28 iv28_3 k28_u0_NG
      refine lv_iload_n hx hb dX11_isAsMany_28 rfl (lv_at hl 1 rfl) ?_
      refine lv_bipush (v := 12) hx hb dX11_isAsMany_29 (by decide) ?_
      refine lv_icmp_gt (tgt := 57) hx hb dX11_isAsMany_31 (by decide) (fun c1 => ?_) (fun c1 => ?_)
      · have c2 : 12 < v28_3.toInt := Int32.lt_iff_toInt_lt.mp c1
        have i3 : iv v28_3 13 13 := iv_Lr c2 (iv_k (x := 12) (k := 12) rfl) iv28_3 (by decide)
        refine lv_iconst (v := 1) hx hb dX11_isAsMany_57 (by decide) ?_
        exact u_zret C h hr hQ ⟨by decide, by decide⟩ (⟨⟨by decide, by decide⟩, t_28, o_28, k28_u0_NG⟩) (Nat.le_of_ble_eq_true rfl) (Nat.le_of_ble_eq_true rfl) dX11_isAsMany_58
      · have c4 : v28_3.toInt ≤ 12 := Int32.le_iff_toInt_le.mp (iv_nlt c1)
        have i5 : iv v28_3 0 12 := iv_El c4 iv28_3 (iv_k (x := 12) (k := 12) rfl) (by decide)
        refine lv_aload_n hx hb dX11_isAsMany_34 rfl (lv_at hl 0 rfl) ?_
        refine t_getr (tq := 69) C h t_28 hu0 (by decide) wf_60 rfl fl_X11_36 dX11_isAsMany_35 (fun q6 tq6 => ?_)
        refine lv_iload_n hx hb dX11_isAsMany_38 rfl (lv_at hl 1 rfl) ?_
        refine t_iald C h t_28 tq6 (by decide) wf_69 (iv_in i5 (by decide)) dX11_isAsMany_39 (fun z7 iz7 => ?_)
        refine lv_aload_n hx hb dX11_isAsMany_40 rfl (lv_at hl 0 rfl) ?_
        refine t_getr (tq := 78) C h t_28 hu0 (by decide) wf_60 rfl fl_X11_39 dX11_isAsMany_41 (fun q8 tq8 => ?_)
        refine lv_iload_n hx hb dX11_isAsMany_44 rfl (lv_at hl 1 rfl) ?_
        refine t_iald C h t_28 tq8 (by decide) wf_78 (iv_in i5 (by decide)) dX11_isAsMany_45 (fun z9 iz9 => ?_)
        refine lv_icmp_eq (tgt := 51) hx hb dX11_isAsMany_46 (by decide) (fun c10 => ?_) (fun c10 => ?_)
        · have c11 : z7.toInt = z9.toInt := congrArg Int32.toInt c10
          refine i_inc hx hb dX11_isAsMany_51 hl (k := 1) rfl i5 rfl (lo := 1) (hi := 13) (by decide) (by decide) (lv' := fun v => [(3, .int v), (0, .ref u0)]) (fun _ => rfl) (fun z13 ls ez13 mz13 iz13 hl => ?_)
          refine lv_goto (tgt := 28) hx hb dX11_isAsMany_54 (by decide) ?_
          exact ih28 ls f_28 H locs z13 (show 13 - z13.toInt < _ by omega) (lv_cons hl 1 rfl (lv_cons hl 0 rfl (lv_nil hl))) h t_28 o_28 (iv_w iz13 (by decide)) k28_u0_NG
        · have c12 : z7.toInt ≠ z9.toInt := fun z_ => c10 (Int32.toInt_inj.mp z_)
          refine lv_iconst (v := 0) hx hb dX11_isAsMany_49 (by decide) ?_
          exact u_zret C h hr hQ ⟨by decide, by decide⟩ (⟨⟨by decide, by decide⟩, t_28, o_28, k28_u0_NG⟩) (Nat.le_of_ble_eq_true rfl) (Nat.le_of_ble_eq_true rfl) dX11_isAsMany_50
  refine lv_aload_n hx hb dX11_isAsMany_0 rfl (lv_at hl 0 rfl) ?_
  refine lv_iload_n hx hb dX11_isAsMany_1 rfl (lv_at hl 1 rfl) ?_
  refine lv_iconst (v := 0) hx hb dX11_isAsMany_2 (by decide) ?_
  refine lv_iconst (v := 0) hx hb dX11_isAsMany_3 (by decide) ?_
  refine lv_bipush (v := 12) hx hb dX11_isAsMany_4 (by decide) ?_
  refine lv_aload_n hx hb dX11_isAsMany_6 rfl (lv_at hl 0 rfl) ?_
  refine t_getr (tq := 69) C h t hu0 (by decide) wf_60 rfl fl_X11_36 dX11_isAsMany_7 (fun q14 tq14 => ?_)
  obtain ⟨_, r15⟩ := t_rec t hu0 (by decide) wf_60
  refine k_v (r_V C h hl (As := [.int u1, .int 0, .int 0, .int 12, .ref q14]) (rest := []) (s_X11_laysTerms l D G b0 τ f t u0 hu0 u1 hu1 0 (iv_w (iv_k (x := 0) (k := 0) rfl) (by decide)) 0 (iv_w (iv_k (x := 0) (k := 0) rfl) (by decide)) 12 (iv_w (iv_k (x := 12) (k := 12) rfl) (by decide)) q14 tq14 hNG) r15 (Cn := RX11) (T := TX11) (N := 32) rfl rfl mk_X11_laysTerms w_1757 w_1759 w_64 w_1760 ⟨Nat.le_of_ble_eq_true rfl, Nat.le_of_ble_eq_true rfl⟩ rfl (Nat.le_of_ble_eq_true rfl) ⟨Nat.le_of_ble_eq_true rfl, Nat.le_of_ble_eq_true rfl⟩ rfl dX11_isAsMany_10) h (fun f17 H locs p18 h => ?_)
  obtain ⟨tf17, ogf17, ngf17⟩ := p18
  have of17 : Fr [60, 67, 69, 78, 60013, 60014, 60015] τ f f17 := Fr.tr o ogf17 (by decide) (by decide)
  refine lv_aload_n hx hb dX11_isAsMany_13 rfl (lv_at hl 0 rfl) ?_
  refine lv_iload_n hx hb dX11_isAsMany_14 rfl (lv_at hl 1 rfl) ?_
  refine lv_iconst (v := 0) hx hb dX11_isAsMany_15 (by decide) ?_
  refine lv_iload_n hx hb dX11_isAsMany_16 rfl (lv_at hl 2 rfl) ?_
  refine lv_bipush (v := 12) hx hb dX11_isAsMany_17 (by decide) ?_
  refine lv_aload_n hx hb dX11_isAsMany_19 rfl (lv_at hl 0 rfl) ?_
  refine t_getr (tq := 78) C h tf17 hu0 (by decide) wf_60 rfl fl_X11_39 dX11_isAsMany_20 (fun q19 tq19 => ?_)
  obtain ⟨_, r20⟩ := t_rec tf17 hu0 (by decide) wf_60
  refine k_v (r_V C h hl (As := [.int u1, .int 0, .int u2, .int 12, .ref q19]) (rest := []) (s_X11_laysTermso l D G b0 τ f17 tf17 u0 hu0 u1 hu1 0 (iv_w (iv_k (x := 0) (k := 0) rfl) (by decide)) u2 hu2 12 (iv_w (iv_k (x := 12) (k := 12) rfl) (by decide)) q19 tq19 ngf17) r20 (Cn := RX11) (T := TX11) (N := 32) rfl rfl mk_X11_laysTerms w_1757 w_1759 w_64 w_1760 ⟨Nat.le_of_ble_eq_true rfl, Nat.le_of_ble_eq_true rfl⟩ rfl (Nat.le_of_ble_eq_true rfl) ⟨Nat.le_of_ble_eq_true rfl, Nat.le_of_ble_eq_true rfl⟩ rfl dX11_isAsMany_23) h (fun f22 H locs p23 h => ?_)
  obtain ⟨tf22, ogf22, ngf22⟩ := p23
  have of22 : Fr [60, 67, 69, 78, 60013, 60014, 60015] τ f f22 := Fr.tr of17 ogf22 (by decide) (by decide)
  refine lv_iconst (v := 0) hx hb dX11_isAsMany_26 (by decide) ?_
  refine lv_istore_n (lv' := [(3, .int 0), (0, .ref u0), (1, .int u1), (2, .int u2)]) hx hb dX11_isAsMany_27 rfl hl (by decide) rfl (fun ls hl => ?_)
  exact L28 14 ls f22 H locs 0 (by decide) (lv_cons hl 1 rfl (lv_cons hl 0 rfl (lv_nil hl))) h tf22 of22 ⟨by decide, by decide⟩ ngf22
abbrev rm_s_X11_enough : Room := { frames := 5, cells := 0, slots := 0, locals := 123 }
set_option maxRecDepth 100000 in
set_option maxHeartbeats 4000000 in
theorem s_X11_enough (l : Launch) (D : va_G) (G : Nat → Nat) (b0 : Nat) (τ : Nat → Nat) (f : hM) (t : TI G 9 τ f) (u0 : Nat) (hu0 : τ u0 = 60) (u1 : Int32) (hu1 : iv u1 (-2147483648) 2147483647) (hNG : NGs τ f u0) : mI l yX11_enough cX11_enough 2 (.int) rm_s_X11_enough D G b0 f [.ref u0, .int u1] (fun r f1 => iv r (-1) 3 ∧ TI G 9 τ f1 ∧ Fr [60, 67, 69, 78, 60001, 60013, 60014, 60015] τ f f1 ∧ NGs τ f1 u0) := by
  refine met2 (own := RX11) (by decide) rfl (Nat.le_of_ble_eq_true rfl) ?_
  intro p e s m args below meth c ls Q hQ C hr hini hl h
  have hl : lv_has ls 2 [(0, .ref u0), (1, .int u1)] := hl
  obtain ⟨hx, hb, hml, hown, hts, hE0, hlk⟩ := id C
  have o := Fr.rf [60, 67, 69, 78, 60001, 60013, 60014, 60015] τ f
  refine lv_aload_n hx hb dX11_enough_0 rfl (lv_at hl 0 rfl) ?_
  refine lv_iconst (v := 0) hx hb dX11_enough_1 (by decide) ?_
  refine t_put C h t o hu0 (by decide) (by decide) (by decide) wf_60 fw_60 (k := 0) rfl flw_X11_75 (Or.inr ⟨_, _, _, rfl, rfl⟩) (v := .int 0) rfl rfl ⟨_, rfl, ⟨by decide, by decide⟩⟩ dX11_enough_2 (fun f1 H locs h tf1 of1 hq ha_ hn_ hk_ => ?_)
  have k2 := NGs.pk hNG hk_ (by decide) (by decide)
  have k3 := ha_
  refine lv_aload_n hx hb dX11_enough_5 rfl (lv_at hl 0 rfl) ?_
  refine lv_iload_n hx hb dX11_enough_6 rfl (lv_at hl 1 rfl) ?_
  obtain ⟨_, r4⟩ := t_rec tf1 hu0 (by decide) wf_60
  refine k_i (r_V C h hl (As := [.int u1]) (rest := []) (s_X11_isSet l D G b0 τ f1 tf1 u0 hu0 u1 hu1) r4 (Cn := RX11) (T := TX11) (N := 32) rfl rfl mk_X11_isSet w_1620 w_1622 w_51 w_1623 ⟨Nat.le_of_ble_eq_true rfl, Nat.le_of_ble_eq_true rfl⟩ rfl (Nat.le_of_ble_eq_true rfl) ⟨Nat.le_of_ble_eq_true rfl, Nat.le_of_ble_eq_true rfl⟩ rfl dX11_enough_7) h (fun r5 f6 H locs p7 h => ?_)
  obtain ⟨ir5, tf6, ogf6, cnr5⟩ := p7
  have egf6 := Fr.nil2 ogf6
  subst egf6
  refine lv_if_eq (tgt := 45) hx hb dX11_enough_10 (by decide) (fun c8 => ?_) (fun c8 => ?_)
  · have c9 : r5.toInt = 0 := congrArg Int32.toInt c8
    have i10 : iv r5 0 0 := iv_Q c9 ir5 (iv_k (x := 0) (k := 0) rfl) (by decide)
    refine lv_iconst (v := -1) hx hb dX11_enough_45 (by decide) ?_
    exact u_iret C h hr hQ (⟨⟨by decide, by decide⟩, tf1, of1, k2⟩) (Nat.le_of_ble_eq_true rfl) (Nat.le_of_ble_eq_true rfl) dX11_enough_46
  · have c11 : r5.toInt ≠ 0 := fun z_ => c8 (Int32.toInt_inj.mp z_)
    have i12 : iv r5 1 1 := iv_Nl c11 ir5 (by decide)
    have i13 := cnr5 c11
    refine lv_aload_n hx hb dX11_enough_13 rfl (lv_at hl 0 rfl) ?_
    refine lv_iload_n hx hb dX11_enough_14 rfl (lv_at hl 1 rfl) ?_
    refine lv_iconst (v := 1) hx hb dX11_enough_15 (by decide) ?_
    obtain ⟨_, r14⟩ := t_rec tf1 hu0 (by decide) wf_60
    refine k_i (r_V C h hl (As := [.int u1, .int 1]) (rest := []) (s_X11_isAsMany l D G b0 τ f1 tf1 u0 hu0 u1 i13 1 (iv_w (iv_k (x := 1) (k := 1) rfl) (by decide)) k2) r14 (Cn := RX11) (T := TX11) (N := 32) rfl rfl mk_X11_isAsMany w_1916 w_1918 w_75 w_1919 ⟨Nat.le_of_ble_eq_true rfl, Nat.le_of_ble_eq_true rfl⟩ rfl (Nat.le_of_ble_eq_true rfl) ⟨Nat.le_of_ble_eq_true rfl, Nat.le_of_ble_eq_true rfl⟩ rfl dX11_enough_16) h (fun r15 f16 H locs p17 h => ?_)
    obtain ⟨ir15, tf16, ogf16, ngf16⟩ := p17
    have of16 : Fr [60, 67, 69, 78, 60001, 60013, 60014, 60015] τ f f16 := Fr.tr of1 ogf16 (by decide) (by decide)
    refine lv_if_eq (tgt := 26) hx hb dX11_enough_19 (by decide) (fun c18 => ?_) (fun c18 => ?_)
    · have c19 : r15.toInt = 0 := congrArg Int32.toInt c18
      have i20 : iv r15 0 0 := iv_Q c19 ir15 (iv_k (x := 0) (k := 0) rfl) (by decide)
      refine lv_iconst (v := 0) hx hb dX11_enough_26 (by decide) ?_
      refine lv_aload_n hx hb dX11_enough_27 rfl (lv_at hl 0 rfl) ?_
      refine lv_iload_n hx hb dX11_enough_28 rfl (lv_at hl 1 rfl) ?_
      refine lv_iconst (v := 3) hx hb dX11_enough_29 (by decide) ?_
      obtain ⟨_, r23⟩ := t_rec tf16 hu0 (by decide) wf_60
      refine k_i (r_V C h hl (As := [.int u1, .int 3]) (rest := [.int 0]) (s_X11_isAsMany l D G b0 τ f16 tf16 u0 hu0 u1 i13 3 (iv_w (iv_k (x := 3) (k := 3) rfl) (by decide)) ngf16) r23 (Cn := RX11) (T := TX11) (N := 32) rfl rfl mk_X11_isAsMany w_1916 w_1918 w_75 w_1919 ⟨Nat.le_of_ble_eq_true rfl, Nat.le_of_ble_eq_true rfl⟩ rfl (Nat.le_of_ble_eq_true rfl) ⟨Nat.le_of_ble_eq_true rfl, Nat.le_of_ble_eq_true rfl⟩ rfl dX11_enough_30) h (fun r24 f25 H locs p26 h => ?_)
      obtain ⟨ir24, tf25, ogf25, ngf25⟩ := p26
      have of25 : Fr [60, 67, 69, 78, 60001, 60013, 60014, 60015] τ f f25 := Fr.tr of16 ogf25 (by decide) (by decide)
      refine lv_if_eq (tgt := 40) hx hb dX11_enough_33 (by decide) (fun c27 => ?_) (fun c27 => ?_)
      · have c28 : r24.toInt = 0 := congrArg Int32.toInt c27
        have i29 : iv r24 0 0 := iv_Q c28 ir24 (iv_k (x := 0) (k := 0) rfl) (by decide)
        refine lv_iconst (v := 0) hx hb dX11_enough_40 (by decide) ?_
        refine lv_iadd hx hb dX11_enough_41 (lv_topi (fun x_ e_ => ?_))
        obtain rfl : 0 = x_ := by rw [e_]; decide
        refine lv_goto (tgt := 46) hx hb dX11_enough_42 (by decide) ?_
        exact u_iret C h hr hQ (⟨⟨by decide, by decide⟩, tf25, of25, ngf25⟩) (Nat.le_of_ble_eq_true rfl) (Nat.le_of_ble_eq_true rfl) dX11_enough_46
      · have c30 : r24.toInt ≠ 0 := fun z_ => c27 (Int32.toInt_inj.mp z_)
        have i31 : iv r24 1 1 := iv_Nl c30 ir24 (by decide)
        refine lv_iconst (v := 2) hx hb dX11_enough_36 (by decide) ?_
        refine lv_goto (tgt := 41) hx hb dX11_enough_37 (by decide) ?_
        refine lv_iadd hx hb dX11_enough_41 (lv_topi (fun x_ e_ => ?_))
        obtain rfl : 2 = x_ := by rw [e_]; decide
        refine lv_goto (tgt := 46) hx hb dX11_enough_42 (by decide) ?_
        exact u_iret C h hr hQ (⟨⟨by decide, by decide⟩, tf25, of25, ngf25⟩) (Nat.le_of_ble_eq_true rfl) (Nat.le_of_ble_eq_true rfl) dX11_enough_46
    · have c21 : r15.toInt ≠ 0 := fun z_ => c18 (Int32.toInt_inj.mp z_)
      have i22 : iv r15 1 1 := iv_Nl c21 ir15 (by decide)
      refine lv_iconst (v := 1) hx hb dX11_enough_22 (by decide) ?_
      refine lv_goto (tgt := 27) hx hb dX11_enough_23 (by decide) ?_
      refine lv_aload_n hx hb dX11_enough_27 rfl (lv_at hl 0 rfl) ?_
      refine lv_iload_n hx hb dX11_enough_28 rfl (lv_at hl 1 rfl) ?_
      refine lv_iconst (v := 3) hx hb dX11_enough_29 (by decide) ?_
      obtain ⟨_, r32⟩ := t_rec tf16 hu0 (by decide) wf_60
      refine k_i (r_V C h hl (As := [.int u1, .int 3]) (rest := [.int 1]) (s_X11_isAsMany l D G b0 τ f16 tf16 u0 hu0 u1 i13 3 (iv_w (iv_k (x := 3) (k := 3) rfl) (by decide)) ngf16) r32 (Cn := RX11) (T := TX11) (N := 32) rfl rfl mk_X11_isAsMany w_1916 w_1918 w_75 w_1919 ⟨Nat.le_of_ble_eq_true rfl, Nat.le_of_ble_eq_true rfl⟩ rfl (Nat.le_of_ble_eq_true rfl) ⟨Nat.le_of_ble_eq_true rfl, Nat.le_of_ble_eq_true rfl⟩ rfl dX11_enough_30) h (fun r33 f34 H locs p35 h => ?_)
      obtain ⟨ir33, tf34, ogf34, ngf34⟩ := p35
      have of34 : Fr [60, 67, 69, 78, 60001, 60013, 60014, 60015] τ f f34 := Fr.tr of16 ogf34 (by decide) (by decide)
      refine lv_if_eq (tgt := 40) hx hb dX11_enough_33 (by decide) (fun c36 => ?_) (fun c36 => ?_)
      · have c37 : r33.toInt = 0 := congrArg Int32.toInt c36
        have i38 : iv r33 0 0 := iv_Q c37 ir33 (iv_k (x := 0) (k := 0) rfl) (by decide)
        refine lv_iconst (v := 0) hx hb dX11_enough_40 (by decide) ?_
        refine lv_iadd hx hb dX11_enough_41 (lv_topi (fun x_ e_ => ?_))
        obtain rfl : 1 = x_ := by rw [e_]; decide
        refine lv_goto (tgt := 46) hx hb dX11_enough_42 (by decide) ?_
        exact u_iret C h hr hQ (⟨⟨by decide, by decide⟩, tf34, of34, ngf34⟩) (Nat.le_of_ble_eq_true rfl) (Nat.le_of_ble_eq_true rfl) dX11_enough_46
      · have c39 : r33.toInt ≠ 0 := fun z_ => c36 (Int32.toInt_inj.mp z_)
        have i40 : iv r33 1 1 := iv_Nl c39 ir33 (by decide)
        refine lv_iconst (v := 2) hx hb dX11_enough_36 (by decide) ?_
        refine lv_goto (tgt := 41) hx hb dX11_enough_37 (by decide) ?_
        refine lv_iadd hx hb dX11_enough_41 (lv_topi (fun x_ e_ => ?_))
        obtain rfl : 3 = x_ := by rw [e_]; decide
        refine lv_goto (tgt := 46) hx hb dX11_enough_42 (by decide) ?_
        exact u_iret C h hr hQ (⟨⟨by decide, by decide⟩, tf34, of34, ngf34⟩) (Nat.le_of_ble_eq_true rfl) (Nat.le_of_ble_eq_true rfl) dX11_enough_46
abbrev rm_s_X11_areAlike : Room := { frames := 4, cells := 0, slots := 0, locals := 100 }
set_option maxRecDepth 100000 in
set_option maxHeartbeats 4000000 in
theorem s_X11_areAlike (l : Launch) (D : va_G) (G : Nat → Nat) (b0 : Nat) (τ : Nat → Nat) (f : hM) (t : TI G 9 τ f) (u0 : Nat) (hu0 : τ u0 = 60) (u1 : Int32) (hu1 : iv u1 (-2147483648) 2147483647) (u2 : Int32) (hu2 : iv u2 0 7) (hNG : NGs τ f u0) : mI l yX11_areAlike cX11_areAlike 4 (.boolean) rm_s_X11_areAlike D G b0 f [.ref u0, .int u1, .int u2] (fun r f1 => iv r 0 1 ∧ TI G 9 τ f1 ∧ Fr [60, 67, 78, 60013, 60014, 60015] τ f f1 ∧ NGs τ f1 u0) := by
  refine met2 (own := RX11) (by decide) rfl (Nat.le_of_ble_eq_true rfl) ?_
  intro p e s m args below meth c ls Q hQ C hr hini hl h
  have hl : lv_has ls 4 [(0, .ref u0), (1, .int u1), (2, .int u2)] := hl
  obtain ⟨hx, hb, hml, hown, hts, hE0, hlk⟩ := id C
  have o := Fr.rf [60, 67, 78, 60013, 60014, 60015] τ f
  have L15 : ∀ (n15 : Nat) (ls : Array Slot) (f_15 : hM) (H : Heap) (locs : List Loc) (v15_3 : Int32), 21 - v15_3.toInt < (n15 : Int) → lv_has ls 4 [(0, .ref u0), (3, .int v15_3)] → hw D b0 s.heap f_15 H locs → TI G 9 τ f_15 → Fr [60, 67, 78, 60013, 60014, 60015] τ f f_15 → iv v15_3 0 21 → NGs τ f_15 u0 → W p l e rm_s_X11_areAlike s m args below meth c H locs 0 0 Q (F0 m 15 ls []) := by
    intro n15
    induction n15 with
    | zero => intro ls f_15 H locs v15_3 hm15 hl h t_15 o_15 iv15_3 k15_u0_NG; exact absurd hm15 (by omega)
    | succ n15 ih15 =>
      intro ls f_15 H locs v15_3 hm15 hl h t_15 o_15 iv15_3 k15_u0_NG
      refine lv_iload_n hx hb dX11_areAlike_15 rfl (lv_at hl 1 rfl) ?_
      refine lv_bipush (v := 20) hx hb dX11_areAlike_16 (by decide) ?_
      refine lv_icmp_gt (tgt := 44) hx hb dX11_areAlike_18 (by decide) (fun c1 => ?_) (fun c1 => ?_)
      · have c2 : 20 < v15_3.toInt := Int32.lt_iff_toInt_lt.mp c1
        have i3 : iv v15_3 21 21 := iv_Lr c2 (iv_k (x := 20) (k := 20) rfl) iv15_3 (by decide)
        refine lv_iconst (v := 1) hx hb dX11_areAlike_44 (by decide) ?_
        exact u_zret C h hr hQ ⟨by decide, by decide⟩ (⟨⟨by decide, by decide⟩, t_15, o_15, k15_u0_NG⟩) (Nat.le_of_ble_eq_true rfl) (Nat.le_of_ble_eq_true rfl) dX11_areAlike_45
      · have c4 : v15_3.toInt ≤ 20 := Int32.le_iff_toInt_le.mp (iv_nlt c1)
        have i5 : iv v15_3 0 20 := iv_El c4 iv15_3 (iv_k (x := 20) (k := 20) rfl) (by decide)
        refine lv_aload_n hx hb dX11_areAlike_21 rfl (lv_at hl 0 rfl) ?_
        refine t_getr (tq := 69) C h t_15 hu0 (by decide) wf_60 rfl fl_X11_36 dX11_areAlike_22 (fun q6 tq6 => ?_)
        refine lv_iload_n hx hb dX11_areAlike_25 rfl (lv_at hl 1 rfl) ?_
        refine t_iald C h t_15 tq6 (by decide) wf_69 (iv_in i5 (by decide)) dX11_areAlike_26 (fun z7 iz7 => ?_)
        refine lv_aload_n hx hb dX11_areAlike_27 rfl (lv_at hl 0 rfl) ?_
        refine t_getr (tq := 78) C h t_15 hu0 (by decide) wf_60 rfl fl_X11_39 dX11_areAlike_28 (fun q8 tq8 => ?_)
        refine lv_iload_n hx hb dX11_areAlike_31 rfl (lv_at hl 1 rfl) ?_
        refine t_iald C h t_15 tq8 (by decide) wf_78 (iv_in i5 (by decide)) dX11_areAlike_32 (fun z9 iz9 => ?_)
        refine lv_icmp_eq (tgt := 38) hx hb dX11_areAlike_33 (by decide) (fun c10 => ?_) (fun c10 => ?_)
        · have c11 : z7.toInt = z9.toInt := congrArg Int32.toInt c10
          refine i_inc hx hb dX11_areAlike_38 hl (k := 1) rfl i5 rfl (lo := 1) (hi := 21) (by decide) (by decide) (lv' := fun v => [(3, .int v), (0, .ref u0)]) (fun _ => rfl) (fun z13 ls ez13 mz13 iz13 hl => ?_)
          refine lv_goto (tgt := 15) hx hb dX11_areAlike_41 (by decide) ?_
          exact ih15 ls f_15 H locs z13 (show 21 - z13.toInt < _ by omega) (lv_cons hl 1 rfl (lv_cons hl 0 rfl (lv_nil hl))) h t_15 o_15 (iv_w iz13 (by decide)) k15_u0_NG
        · have c12 : z7.toInt ≠ z9.toInt := fun z_ => c10 (Int32.toInt_inj.mp z_)
          refine lv_iconst (v := 0) hx hb dX11_areAlike_36 (by decide) ?_
          exact u_zret C h hr hQ ⟨by decide, by decide⟩ (⟨⟨by decide, by decide⟩, t_15, o_15, k15_u0_NG⟩) (Nat.le_of_ble_eq_true rfl) (Nat.le_of_ble_eq_true rfl) dX11_areAlike_37
  refine lv_aload_n hx hb dX11_areAlike_0 rfl (lv_at hl 0 rfl) ?_
  refine lv_iload_n hx hb dX11_areAlike_1 rfl (lv_at hl 2 rfl) ?_
  refine lv_iconst (v := 0) hx hb dX11_areAlike_2 (by decide) ?_
  refine lv_iconst (v := 0) hx hb dX11_areAlike_3 (by decide) ?_
  refine lv_bipush (v := 20) hx hb dX11_areAlike_4 (by decide) ?_
  refine lv_aload_n hx hb dX11_areAlike_6 rfl (lv_at hl 0 rfl) ?_
  refine t_getr (tq := 78) C h t hu0 (by decide) wf_60 rfl fl_X11_39 dX11_areAlike_7 (fun q14 tq14 => ?_)
  obtain ⟨_, r15⟩ := t_rec t hu0 (by decide) wf_60
  refine k_v (r_V C h hl (As := [.int u2, .int 0, .int 0, .int 20, .ref q14]) (rest := []) (s_X11_laysTermso l D G b0 τ f t u0 hu0 u2 hu2 0 (iv_w (iv_k (x := 0) (k := 0) rfl) (by decide)) 0 (iv_w (iv_k (x := 0) (k := 0) rfl) (by decide)) 20 (iv_w (iv_k (x := 20) (k := 20) rfl) (by decide)) q14 tq14 hNG) r15 (Cn := RX11) (T := TX11) (N := 32) rfl rfl mk_X11_laysTerms w_1757 w_1759 w_64 w_1760 ⟨Nat.le_of_ble_eq_true rfl, Nat.le_of_ble_eq_true rfl⟩ rfl (Nat.le_of_ble_eq_true rfl) ⟨Nat.le_of_ble_eq_true rfl, Nat.le_of_ble_eq_true rfl⟩ rfl dX11_areAlike_10) h (fun f17 H locs p18 h => ?_)
  obtain ⟨tf17, ogf17, ngf17⟩ := p18
  have of17 : Fr [60, 67, 78, 60013, 60014, 60015] τ f f17 := Fr.tr o ogf17 (by decide) (by decide)
  refine lv_iconst (v := 0) hx hb dX11_areAlike_13 (by decide) ?_
  refine lv_istore_n (lv' := [(3, .int 0), (0, .ref u0), (1, .int u1), (2, .int u2)]) hx hb dX11_areAlike_14 rfl hl (by decide) rfl (fun ls hl => ?_)
  exact L15 22 ls f17 H locs 0 (by decide) (lv_cons hl 1 rfl (lv_cons hl 0 rfl (lv_nil hl))) h tf17 of17 ⟨by decide, by decide⟩ ngf17
abbrev rm_s_X11_less : Room := { frames := 0, cells := 0, slots := 0, locals := 0 }
set_option maxRecDepth 100000 in
set_option maxHeartbeats 4000000 in
theorem s_X11_less (l : Launch) (D : va_G) (G : Nat → Nat) (b0 : Nat) (τ : Nat → Nat) (f : hM) (t : TI G 9 τ f) (u0 : Nat) (hu0 : τ u0 = 60) (u1 : Int32) (hu1 : iv u1 0 27) (u2 : Int32) (hu2 : iv u2 0 27) (u3 : Int64) : mV l yX11_less cX11_less 6 rm_s_X11_less D G b0 f [.ref u0, .int u1, .int u2, .long u3] (fun f1 => TI G 9 τ f1 ∧ Fr [72, 73] τ f f1) := by
  refine met2 (own := RX11) (by decide) rfl (Nat.le_of_ble_eq_true rfl) ?_
  intro p e s m args below meth c ls Q hQ C hr hini hl h
  have hl : lv_has ls 6 [(0, .ref u0), (1, .int u1), (2, .int u2), (3, .long u3)] := hl
  obtain ⟨hx, hb, hml, hown, hts, hE0, hlk⟩ := id C
  have o := Fr.rf [72, 73] τ f
  have L3 : ∀ (n3 : Nat) (ls : Array Slot) (f_3 : hM) (H : Heap) (locs : List Loc) (v3_5 : Int32), 32 - v3_5.toInt < (n3 : Int) → lv_has ls 6 [(0, .ref u0), (1, .int u1), (2, .int u2), (3, .long u3), (5, .int v3_5)] → hw D b0 s.heap f_3 H locs → TI G 9 τ f_3 → Fr [72, 73] τ f f_3 → iv v3_5 0 32 → W p l e rm_s_X11_less s m args below meth c H locs 0 0 Q (F0 m 3 ls []) := by
    intro n3
    induction n3 with
    | zero => intro ls f_3 H locs v3_5 hm3 hl h t_3 o_3 iv3_5; exact absurd hm3 (by omega)
    | succ n3 ih3 =>
      intro ls f_3 H locs v3_5 hm3 hl h t_3 o_3 iv3_5
      have L68 : ∀ (n68 : Nat) (ls : Array Slot) (f_68 : hM) (H : Heap) (locs : List Loc) (v68_5 : Int32), 28 - v68_5.toInt < (n68 : Int) → lv_has ls 6 [(0, .ref u0), (1, .int u1), (2, .int u2), (3, .long u3), (5, .int v68_5)] → hw D b0 s.heap f_68 H locs → TI G 9 τ f_68 → Fr [72, 73] τ f f_68 → iv v68_5 0 28 → W p l e rm_s_X11_less s m args below meth c H locs 0 0 Q (F0 m 68 ls []) := by
        intro n68
        induction n68 with
        | zero => intro ls f_68 H locs v68_5 hm68 hl h t_68 o_68 iv68_5; exact absurd hm68 (by omega)
        | succ n68 ih68 =>
          intro ls f_68 H locs v68_5 hm68 hl h t_68 o_68 iv68_5
          refine lv_iload hx hb dX11_less_68 (lv_at hl 4 rfl) ?_
          refine lv_aload_n hx hb dX11_less_70 rfl (lv_at hl 0 rfl) ?_
          refine t_geti C h t_68 hu0 (by decide) wf_60 rfl fl_X11_370 dX11_less_71 (fun z1 iz1 => ?_)
          refine lv_icmp_ge (tgt := 130) hx hb dX11_less_74 (by decide) (fun c2 => ?_) (fun c2 => ?_)
          · have c3 : z1.toInt ≤ v68_5.toInt := Int32.le_iff_toInt_le.mp c2
            exact u_vret C h hr hQ (⟨t_68, o_68⟩) (Nat.le_of_ble_eq_true rfl) (Nat.le_of_ble_eq_true rfl) dX11_less_130
          · have c4 : v68_5.toInt < z1.toInt := Int32.lt_iff_toInt_lt.mp (iv_nle c2)
            have i5 : iv v68_5 0 27 := iv_Ll c4 iv68_5 iz1 (by decide)
            have i6 : iv z1 1 28 := iv_Lr c4 iv68_5 iz1 (by decide)
            refine lv_aload_n hx hb dX11_less_77 rfl (lv_at hl 0 rfl) ?_
            refine t_getr (tq := 73) C h t_68 hu0 (by decide) wf_60 rfl fl_X11_60 dX11_less_78 (fun q7 tq7 => ?_)
            refine lv_bipush (v := 28) hx hb dX11_less_81 (by decide) ?_
            refine lv_iload_n hx hb dX11_less_83 rfl (lv_at hl 1 rfl) ?_
            refine i_cmul hx hb dX11_less_84 (k := 28) rfl hu1 (lo := 0) (hi := 756) (by decide) (fun z8 ez8 mz8 iz8 => ?_)
            refine lv_iload hx hb dX11_less_85 (lv_at hl 4 rfl) ?_
            refine i_add hx hb dX11_less_87 iz8 i5 (lo := 0) (hi := 783) (by decide) (fun z9 ez9 mz9 iz9 => ?_)
            refine lv_aload_n hx hb dX11_less_88 rfl (lv_at hl 0 rfl) ?_
            refine t_getr (tq := 73) C h t_68 hu0 (by decide) wf_60 rfl fl_X11_60 dX11_less_89 (fun q10 tq10 => ?_)
            refine lv_bipush (v := 28) hx hb dX11_less_92 (by decide) ?_
            refine lv_iload_n hx hb dX11_less_94 rfl (lv_at hl 1 rfl) ?_
            refine i_cmul hx hb dX11_less_95 (k := 28) rfl hu1 (lo := 0) (hi := 756) (by decide) (fun z11 ez11 mz11 iz11 => ?_)
            refine lv_iload hx hb dX11_less_96 (lv_at hl 4 rfl) ?_
            refine i_add hx hb dX11_less_98 iz11 i5 (lo := 0) (hi := 783) (by decide) (fun z12 ez12 mz12 iz12 => ?_)
            refine t_lald C h t_68 tq10 (by decide) wf_73 (iv_in iz12 (by decide)) dX11_less_99 (fun w13 => ?_)
            refine lv_ldc2 (v := 1000003) hx hb hown (hts _ w_1719) dX11_less_100 ?_
            refine lv_lload_n hx hb dX11_less_103 rfl (lv_at hl 3 rfl) ?_
            refine lv_lsub hx hb dX11_less_104 (lv_topl (fun w14 ew14 => ?_))
            refine lv_aload_n hx hb dX11_less_105 rfl (lv_at hl 0 rfl) ?_
            refine t_getr (tq := 73) C h t_68 hu0 (by decide) wf_60 rfl fl_X11_60 dX11_less_106 (fun q15 tq15 => ?_)
            refine lv_bipush (v := 28) hx hb dX11_less_109 (by decide) ?_
            refine lv_iload_n hx hb dX11_less_111 rfl (lv_at hl 2 rfl) ?_
            refine i_cmul hx hb dX11_less_112 (k := 28) rfl hu2 (lo := 0) (hi := 756) (by decide) (fun z16 ez16 mz16 iz16 => ?_)
            refine lv_iload hx hb dX11_less_113 (lv_at hl 4 rfl) ?_
            refine i_add hx hb dX11_less_115 iz16 i5 (lo := 0) (hi := 783) (by decide) (fun z17 ez17 mz17 iz17 => ?_)
            refine t_lald C h t_68 tq15 (by decide) wf_73 (iv_in iz17 (by decide)) dX11_less_116 (fun w18 => ?_)
            refine lv_lmul hx hb dX11_less_117 (lv_topl (fun w19 ew19 => ?_))
            refine lv_ladd hx hb dX11_less_118 (lv_topl (fun w20 ew20 => ?_))
            refine lv_ldc2 (v := 1000003) hx hb hown (hts _ w_1719) dX11_less_119 ?_
            refine lv_lrem hx hb dX11_less_122 (by decide) (i_topl (lrem_iv (k := 1000003) rfl (by decide) (lo := -1000002) (hi := 1000002) (by decide)) (fun w21 ew21 iw21 => ?_))
            refine t_last C h t_68 o_68 tq7 (by decide) (by decide) wf_73 fw_73 (iv_in iz9 (by decide)) dX11_less_123 (fun f22 H locs h tf22 of22 hq => ?_)
            refine i_inc hx hb dX11_less_124 hl (k := 4) rfl i5 rfl (lo := 1) (hi := 28) (by decide) (by decide) (lv' := fun v => [(5, .int v), (0, .ref u0), (1, .int u1), (2, .int u2), (3, .long u3)]) (fun _ => rfl) (fun z23 ls ez23 mz23 iz23 hl => ?_)
            refine lv_goto (tgt := 68) hx hb dX11_less_127 (by decide) ?_
            exact ih68 ls f22 H locs z23 (show 28 - z23.toInt < _ by omega) (lv_cons hl 1 rfl (lv_cons hl 2 rfl (lv_cons hl 3 rfl (lv_cons hl 4 rfl (lv_cons hl 0 rfl (lv_nil hl)))))) h tf22 of22 (iv_w iz23 (by decide))
      refine lv_iload hx hb dX11_less_3 (lv_at hl 4 rfl) ?_
      refine lv_aload_n hx hb dX11_less_5 rfl (lv_at hl 0 rfl) ?_
      refine t_geti C h t_3 hu0 (by decide) wf_60 rfl fl_X11_367 dX11_less_6 (fun z24 iz24 => ?_)
      refine lv_icmp_ge (tgt := 65) hx hb dX11_less_9 (by decide) (fun c25 => ?_) (fun c25 => ?_)
      · have c26 : z24.toInt ≤ v3_5.toInt := Int32.le_iff_toInt_le.mp c25
        refine lv_iconst (v := 0) hx hb dX11_less_65 (by decide) ?_
        refine lv_istore (lv' := [(5, .int 0), (0, .ref u0), (1, .int u1), (2, .int u2), (3, .long u3)]) hx hb dX11_less_66 hl (by decide) rfl (fun ls hl => ?_)
        exact L68 29 ls f_3 H locs 0 (by decide) (lv_cons hl 1 rfl (lv_cons hl 2 rfl (lv_cons hl 3 rfl (lv_cons hl 4 rfl (lv_cons hl 0 rfl (lv_nil hl)))))) h t_3 o_3 ⟨by decide, by decide⟩
      · have c27 : v3_5.toInt < z24.toInt := Int32.lt_iff_toInt_lt.mp (iv_nle c25)
        have i28 : iv v3_5 0 31 := iv_Ll c27 iv3_5 iz24 (by decide)
        have i29 : iv z24 1 32 := iv_Lr c27 iv3_5 iz24 (by decide)
        refine lv_aload_n hx hb dX11_less_12 rfl (lv_at hl 0 rfl) ?_
        refine t_getr (tq := 72) C h t_3 hu0 (by decide) wf_60 rfl fl_X11_57 dX11_less_13 (fun q30 tq30 => ?_)
        refine lv_bipush (v := 61) hx hb dX11_less_16 (by decide) ?_
        refine lv_iload_n hx hb dX11_less_18 rfl (lv_at hl 1 rfl) ?_
        refine i_cmul hx hb dX11_less_19 (k := 61) rfl hu1 (lo := 0) (hi := 1647) (by decide) (fun z31 ez31 mz31 iz31 => ?_)
        refine lv_iload hx hb dX11_less_20 (lv_at hl 4 rfl) ?_
        refine i_add hx hb dX11_less_22 iz31 i28 (lo := 0) (hi := 1678) (by decide) (fun z32 ez32 mz32 iz32 => ?_)
        refine lv_aload_n hx hb dX11_less_23 rfl (lv_at hl 0 rfl) ?_
        refine t_getr (tq := 72) C h t_3 hu0 (by decide) wf_60 rfl fl_X11_57 dX11_less_24 (fun q33 tq33 => ?_)
        refine lv_bipush (v := 61) hx hb dX11_less_27 (by decide) ?_
        refine lv_iload_n hx hb dX11_less_29 rfl (lv_at hl 1 rfl) ?_
        refine i_cmul hx hb dX11_less_30 (k := 61) rfl hu1 (lo := 0) (hi := 1647) (by decide) (fun z34 ez34 mz34 iz34 => ?_)
        refine lv_iload hx hb dX11_less_31 (lv_at hl 4 rfl) ?_
        refine i_add hx hb dX11_less_33 iz34 i28 (lo := 0) (hi := 1678) (by decide) (fun z35 ez35 mz35 iz35 => ?_)
        refine t_lald C h t_3 tq33 (by decide) wf_72 (iv_in iz35 (by decide)) dX11_less_34 (fun w36 => ?_)
        refine lv_ldc2 (v := 1000003) hx hb hown (hts _ w_1719) dX11_less_35 ?_
        refine lv_lload_n hx hb dX11_less_38 rfl (lv_at hl 3 rfl) ?_
        refine lv_lsub hx hb dX11_less_39 (lv_topl (fun w37 ew37 => ?_))
        refine lv_aload_n hx hb dX11_less_40 rfl (lv_at hl 0 rfl) ?_
        refine t_getr (tq := 72) C h t_3 hu0 (by decide) wf_60 rfl fl_X11_57 dX11_less_41 (fun q38 tq38 => ?_)
        refine lv_bipush (v := 61) hx hb dX11_less_44 (by decide) ?_
        refine lv_iload_n hx hb dX11_less_46 rfl (lv_at hl 2 rfl) ?_
        refine i_cmul hx hb dX11_less_47 (k := 61) rfl hu2 (lo := 0) (hi := 1647) (by decide) (fun z39 ez39 mz39 iz39 => ?_)
        refine lv_iload hx hb dX11_less_48 (lv_at hl 4 rfl) ?_
        refine i_add hx hb dX11_less_50 iz39 i28 (lo := 0) (hi := 1678) (by decide) (fun z40 ez40 mz40 iz40 => ?_)
        refine t_lald C h t_3 tq38 (by decide) wf_72 (iv_in iz40 (by decide)) dX11_less_51 (fun w41 => ?_)
        refine lv_lmul hx hb dX11_less_52 (lv_topl (fun w42 ew42 => ?_))
        refine lv_ladd hx hb dX11_less_53 (lv_topl (fun w43 ew43 => ?_))
        refine lv_ldc2 (v := 1000003) hx hb hown (hts _ w_1719) dX11_less_54 ?_
        refine lv_lrem hx hb dX11_less_57 (by decide) (i_topl (lrem_iv (k := 1000003) rfl (by decide) (lo := -1000002) (hi := 1000002) (by decide)) (fun w44 ew44 iw44 => ?_))
        refine t_last C h t_3 o_3 tq30 (by decide) (by decide) wf_72 fw_72 (iv_in iz32 (by decide)) dX11_less_58 (fun f45 H locs h tf45 of45 hq => ?_)
        refine i_inc hx hb dX11_less_59 hl (k := 4) rfl i28 rfl (lo := 1) (hi := 32) (by decide) (by decide) (lv' := fun v => [(5, .int v), (0, .ref u0), (1, .int u1), (2, .int u2), (3, .long u3)]) (fun _ => rfl) (fun z46 ls ez46 mz46 iz46 hl => ?_)
        refine lv_goto (tgt := 3) hx hb dX11_less_62 (by decide) ?_
        exact ih3 ls f45 H locs z46 (show 32 - z46.toInt < _ by omega) (lv_cons hl 1 rfl (lv_cons hl 2 rfl (lv_cons hl 3 rfl (lv_cons hl 4 rfl (lv_cons hl 0 rfl (lv_nil hl)))))) h tf45 of45 (iv_w iz46 (by decide))
  refine lv_iconst (v := 0) hx hb dX11_less_0 (by decide) ?_
  refine lv_istore (lv' := [(5, .int 0), (0, .ref u0), (1, .int u1), (2, .int u2), (3, .long u3)]) hx hb dX11_less_1 hl (by decide) rfl (fun ls hl => ?_)
  exact L3 33 ls f s.heap [] 0 (by decide) (lv_cons hl 1 rfl (lv_cons hl 2 rfl (lv_cons hl 3 rfl (lv_cons hl 4 rfl (lv_cons hl 0 rfl (lv_nil hl)))))) h t o ⟨by decide, by decide⟩
abbrev rm_s_X11_leadOf : Room := { frames := 0, cells := 0, slots := 0, locals := 0 }
set_option maxRecDepth 100000 in
set_option maxHeartbeats 4000000 in
theorem s_X11_leadOf (l : Launch) (D : va_G) (G : Nat → Nat) (b0 : Nat) (τ : Nat → Nat) (f : hM) (t : TI G 9 τ f) (u0 : Nat) (hu0 : τ u0 = 60) (u1 : Int32) (hu1 : iv u1 0 27) : mI l yX11_leadOf cX11_leadOf 3 (.int) rm_s_X11_leadOf D G b0 f [.ref u0, .int u1] (fun r f1 => iv r (-1) 31 ∧ TI G 9 τ f1 ∧ Fr [] τ f f1) := by
  refine met2 (own := RX11) (by decide) rfl (Nat.le_of_ble_eq_true rfl) ?_
  intro p e s m args below meth c ls Q hQ C hr hini hl h
  have hl : lv_has ls 3 [(0, .ref u0), (1, .int u1)] := hl
  obtain ⟨hx, hb, hml, hown, hts, hE0, hlk⟩ := id C
  have o := Fr.rf [] τ f
  have L2 : ∀ (n2 : Nat) (ls : Array Slot) (f_2 : hM) (H : Heap) (locs : List Loc) (v2_2 : Int32), 32 - v2_2.toInt < (n2 : Int) → lv_has ls 3 [(0, .ref u0), (1, .int u1), (2, .int v2_2)] → hw D b0 s.heap f_2 H locs → TI G 9 τ f_2 → Fr [] τ f f_2 → iv v2_2 0 32 → W p l e rm_s_X11_leadOf s m args below meth c H locs 0 0 Q (F0 m 2 ls []) := by
    intro n2
    induction n2 with
    | zero => intro ls f_2 H locs v2_2 hm2 hl h t_2 o_2 iv2_2; exact absurd hm2 (by omega)
    | succ n2 ih2 =>
      intro ls f_2 H locs v2_2 hm2 hl h t_2 o_2 iv2_2
      refine lv_iload_n hx hb dX11_leadOf_2 rfl (lv_at hl 2 rfl) ?_
      refine lv_aload_n hx hb dX11_leadOf_3 rfl (lv_at hl 0 rfl) ?_
      refine t_geti C h t_2 hu0 (by decide) wf_60 rfl fl_X11_367 dX11_leadOf_4 (fun z1 iz1 => ?_)
      refine lv_icmp_ge (tgt := 34) hx hb dX11_leadOf_7 (by decide) (fun c2 => ?_) (fun c2 => ?_)
      · have c3 : z1.toInt ≤ v2_2.toInt := Int32.le_iff_toInt_le.mp c2
        refine lv_iconst (v := -1) hx hb dX11_leadOf_34 (by decide) ?_
        exact u_iret C h hr hQ (⟨⟨by decide, by decide⟩, t_2, o_2⟩) (Nat.le_of_ble_eq_true rfl) (Nat.le_of_ble_eq_true rfl) dX11_leadOf_35
      · have c4 : v2_2.toInt < z1.toInt := Int32.lt_iff_toInt_lt.mp (iv_nle c2)
        have i5 : iv v2_2 0 31 := iv_Ll c4 iv2_2 iz1 (by decide)
        have i6 : iv z1 1 32 := iv_Lr c4 iv2_2 iz1 (by decide)
        refine lv_aload_n hx hb dX11_leadOf_10 rfl (lv_at hl 0 rfl) ?_
        refine t_getr (tq := 72) C h t_2 hu0 (by decide) wf_60 rfl fl_X11_57 dX11_leadOf_11 (fun q7 tq7 => ?_)
        refine lv_bipush (v := 61) hx hb dX11_leadOf_14 (by decide) ?_
        refine lv_iload_n hx hb dX11_leadOf_16 rfl (lv_at hl 1 rfl) ?_
        refine i_cmul hx hb dX11_leadOf_17 (k := 61) rfl hu1 (lo := 0) (hi := 1647) (by decide) (fun z8 ez8 mz8 iz8 => ?_)
        refine lv_iload_n hx hb dX11_leadOf_18 rfl (lv_at hl 2 rfl) ?_
        refine i_add hx hb dX11_leadOf_19 iz8 i5 (lo := 0) (hi := 1678) (by decide) (fun z9 ez9 mz9 iz9 => ?_)
        refine t_lald C h t_2 tq7 (by decide) wf_72 (iv_in iz9 (by decide)) dX11_leadOf_20 (fun w10 => ?_)
        refine lv_lconst (v := 0) hx hb dX11_leadOf_21 (by decide) ?_
        refine W.lcmp hx hb dX11_leadOf_22 (i_topc (fun z11 ez11 mz11 iz11 => ?_))
        refine lv_if_eq (tgt := 28) hx hb dX11_leadOf_23 (by decide) (fun c12 => ?_) (fun c12 => ?_)
        · have c13 : z11.toInt = 0 := congrArg Int32.toInt c12
          have i14 : iv z11 0 0 := iv_Q c13 iz11 (iv_k (x := 0) (k := 0) rfl) (by decide)
          refine i_inc hx hb dX11_leadOf_28 hl (k := 2) rfl i5 rfl (lo := 1) (hi := 32) (by decide) (by decide) (lv' := fun v => [(2, .int v), (0, .ref u0), (1, .int u1)]) (fun _ => rfl) (fun z16 ls ez16 mz16 iz16 hl => ?_)
          refine lv_goto (tgt := 2) hx hb dX11_leadOf_31 (by decide) ?_
          exact ih2 ls f_2 H locs z16 (show 32 - z16.toInt < _ by omega) (lv_cons hl 1 rfl (lv_cons hl 2 rfl (lv_cons hl 0 rfl (lv_nil hl)))) h t_2 o_2 (iv_w iz16 (by decide))
        · have c15 : z11.toInt ≠ 0 := fun z_ => c12 (Int32.toInt_inj.mp z_)
          refine lv_iload_n hx hb dX11_leadOf_26 rfl (lv_at hl 2 rfl) ?_
          exact u_iret C h hr hQ (⟨(iv_w i5 (by decide)), t_2, o_2⟩) (Nat.le_of_ble_eq_true rfl) (Nat.le_of_ble_eq_true rfl) dX11_leadOf_27
  refine lv_iconst (v := 0) hx hb dX11_leadOf_0 (by decide) ?_
  refine lv_istore_n (lv' := [(2, .int 0), (0, .ref u0), (1, .int u1)]) hx hb dX11_leadOf_1 rfl hl (by decide) rfl (fun ls hl => ?_)
  exact L2 33 ls f s.heap [] 0 (by decide) (lv_cons hl 1 rfl (lv_cons hl 2 rfl (lv_cons hl 0 rfl (lv_nil hl)))) h t o ⟨by decide, by decide⟩
abbrev rm_s_X11_hangs : Room := { frames := 2, cells := 0, slots := 0, locals := 48 }
set_option maxRecDepth 100000 in
set_option maxHeartbeats 4000000 in
theorem s_X11_hangs (l : Launch) (D : va_G) (G : Nat → Nat) (b0 : Nat) (τ : Nat → Nat) (f : hM) (t : TI G 9 τ f) (u0 : Nat) (hu0 : τ u0 = 60) : mI l yX11_hangs cX11_hangs 5 (.boolean) rm_s_X11_hangs D G b0 f [.ref u0] (fun r f1 => iv r 0 1 ∧ TI G 9 τ f1 ∧ Fr [72, 73, 74, 75] τ f f1) := by
  refine met2 (own := RX11) (by decide) rfl (Nat.le_of_ble_eq_true rfl) ?_
  intro p e s m args below meth c ls Q hQ C hr hini hl h
  have hl : lv_has ls 5 [(0, .ref u0)] := hl
  obtain ⟨hx, hb, hml, hown, hts, hE0, hlk⟩ := id C
  have o := Fr.rf [72, 73, 74, 75] τ f
  obtain ⟨ql, hql, kql⟩ := t_fref (tq := 75) (k := 26) t hu0 (by decide) wf_60 rfl
  have kpre := lpre0 t hql
  have L2 : ∀ (n2 : Nat) (ls : Array Slot) (f_2 : hM) (H : Heap) (locs : List Loc) (v2_1 : Int32), 28 - v2_1.toInt < (n2 : Int) → lv_has ls 5 [(0, .ref u0), (1, .int v2_1)] → hw D b0 s.heap f_2 H locs → TI G 9 τ f_2 → Fr [72, 73, 74, 75] τ f f_2 → iv v2_1 0 28 → atp f_2 u0 (fd 26 (.ref ql)) → atp f_2 ql (lpre G v2_1.toInt) → W p l e rm_s_X11_hangs s m args below meth c H locs 0 0 Q (F0 m 2 ls []) := by
    intro n2
    induction n2 with
    | zero => intro ls f_2 H locs v2_1 hm2 hl h t_2 o_2 iv2_1 k2_u0_26 k2_ql_pre; exact absurd hm2 (by omega)
    | succ n2 ih2 =>
      intro ls f_2 H locs v2_1 hm2 hl h t_2 o_2 iv2_1 k2_u0_26 k2_ql_pre
      have L12 : ∀ (n12 : Nat) (ls : Array Slot) (f_12 : hM) (H : Heap) (locs : List Loc) (v12_2 : Int32), 32 - v12_2.toInt < (n12 : Int) → lv_has ls 5 [(0, .ref u0), (1, .int v2_1), (2, .int v12_2)] → hw D b0 s.heap f_12 H locs → TI G 9 τ f_12 → Fr [72, 73, 74, 75] τ f f_12 → iv v2_1 0 27 → iv v12_2 0 32 → atp f_12 u0 (fd 26 (.ref ql)) → atp f_12 ql (lpre G v2_1.toInt) → W p l e rm_s_X11_hangs s m args below meth c H locs 0 0 Q (F0 m 12 ls []) := by
        intro n12
        induction n12 with
        | zero => intro ls f_12 H locs v12_2 hm12 hl h t_12 o_12 jv12_1 iv12_2 k12_u0_26 k12_ql_pre; exact absurd hm12 (by omega)
        | succ n12 ih12 =>
          intro ls f_12 H locs v12_2 hm12 hl h t_12 o_12 jv12_1 iv12_2 k12_u0_26 k12_ql_pre
          have L50 : ∀ (n50 : Nat) (ls : Array Slot) (f_50 : hM) (H : Heap) (locs : List Loc) (v50_2 : Int32), 28 - v50_2.toInt < (n50 : Int) → lv_has ls 5 [(0, .ref u0), (1, .int v2_1), (2, .int v50_2)] → hw D b0 s.heap f_50 H locs → TI G 9 τ f_50 → Fr [72, 73, 74, 75] τ f f_50 → iv v50_2 0 28 → atp f_50 u0 (fd 26 (.ref ql)) → atp f_50 ql (lpre G v2_1.toInt) → W p l e rm_s_X11_hangs s m args below meth c H locs 0 0 Q (F0 m 50 ls []) := by
            intro n50
            induction n50 with
            | zero => intro ls f_50 H locs v50_2 hm50 hl h t_50 o_50 iv50_2 k50_u0_26 k50_ql_pre; exact absurd hm50 (by omega)
            | succ n50 ih50 =>
              intro ls f_50 H locs v50_2 hm50 hl h t_50 o_50 iv50_2 k50_u0_26 k50_ql_pre
              have L87 : ∀ (n87 : Nat) (ls : Array Slot) (f_87 : hM) (H : Heap) (locs : List Loc) (v87_2 : Int32), 27 - v87_2.toInt < (n87 : Int) → lv_has ls 5 [(0, .ref u0), (1, .int v2_1), (2, .int v87_2)] → hw D b0 s.heap f_87 H locs → TI G 9 τ f_87 → Fr [72, 73, 74, 75] τ f f_87 → iv v87_2 0 27 → atp f_87 u0 (fd 26 (.ref ql)) → atp f_87 ql (lpre G v2_1.toInt) → W p l e rm_s_X11_hangs s m args below meth c H locs 0 0 Q (F0 m 87 ls []) := by
                intro n87
                induction n87 with
                | zero => intro ls f_87 H locs v87_2 hm87 hl h t_87 o_87 iv87_2 k87_u0_26 k87_ql_pre; exact absurd hm87 (by omega)
                | succ n87 ih87 =>
                  intro ls f_87 H locs v87_2 hm87 hl h t_87 o_87 iv87_2 k87_u0_26 k87_ql_pre
                  have L178 : ∀ (n178 : Nat) (ls : Array Slot) (f_178 : hM) (H : Heap) (locs : List Loc) (v178_2 : Int32), 28 - v178_2.toInt < (n178 : Int) → lv_has ls 5 [(0, .ref u0), (1, .int v2_1), (2, .int v178_2)] → hw D b0 s.heap f_178 H locs → TI G 9 τ f_178 → Fr [72, 73, 74, 75] τ f f_178 → iv v178_2 0 28 → atp f_178 u0 (fd 26 (.ref ql)) → atp f_178 ql (lpre G v2_1.toInt) → W p l e rm_s_X11_hangs s m args below meth c H locs 0 0 Q (F0 m 178 ls []) := by
                    intro n178
                    induction n178 with
                    | zero => intro ls f_178 H locs v178_2 hm178 hl h t_178 o_178 iv178_2 k178_u0_26 k178_ql_pre; exact absurd hm178 (by omega)
                    | succ n178 ih178 =>
                      intro ls f_178 H locs v178_2 hm178 hl h t_178 o_178 iv178_2 k178_u0_26 k178_ql_pre
                      refine lv_iload_n hx hb dX11_hangs_178 rfl (lv_at hl 2 rfl) ?_
                      refine lv_aload_n hx hb dX11_hangs_179 rfl (lv_at hl 0 rfl) ?_
                      refine t_geti C h t_178 hu0 (by decide) wf_60 rfl fl_X11_370 dX11_hangs_180 (fun z1 iz1 => ?_)
                      refine lv_icmp_ge (tgt := 209) hx hb dX11_hangs_183 (by decide) (fun c2 => ?_) (fun c2 => ?_)
                      · have c3 : z1.toInt ≤ v178_2.toInt := Int32.le_iff_toInt_le.mp c2
                        refine lv_iconst (v := 1) hx hb dX11_hangs_209 (by decide) ?_
                        exact u_zret C h hr hQ ⟨by decide, by decide⟩ (⟨⟨by decide, by decide⟩, t_178, o_178⟩) (Nat.le_of_ble_eq_true rfl) (Nat.le_of_ble_eq_true rfl) dX11_hangs_210
                      · have c4 : v178_2.toInt < z1.toInt := Int32.lt_iff_toInt_lt.mp (iv_nle c2)
                        have i5 : iv v178_2 0 27 := iv_Ll c4 iv178_2 iz1 (by decide)
                        have i6 : iv z1 1 28 := iv_Lr c4 iv178_2 iz1 (by decide)
                        refine lv_aload_n hx hb dX11_hangs_186 rfl (lv_at hl 0 rfl) ?_
                        refine t_getr (tq := 74) C h t_178 hu0 (by decide) wf_60 rfl fl_X11_63 dX11_hangs_187 (fun q7 tq7 => ?_)
                        refine lv_iload_n hx hb dX11_hangs_190 rfl (lv_at hl 2 rfl) ?_
                        refine lv_aload_n hx hb dX11_hangs_191 rfl (lv_at hl 0 rfl) ?_
                        refine t_getr (tq := 73) C h t_178 hu0 (by decide) wf_60 rfl fl_X11_60 dX11_hangs_192 (fun q8 tq8 => ?_)
                        refine lv_bipush (v := 28) hx hb dX11_hangs_195 (by decide) ?_
                        refine lv_iload_n hx hb dX11_hangs_197 rfl (lv_at hl 1 rfl) ?_
                        refine i_cmul hx hb dX11_hangs_198 (k := 28) rfl jv12_1 (lo := 0) (hi := 756) (by decide) (fun z9 ez9 mz9 iz9 => ?_)
                        refine lv_iload_n hx hb dX11_hangs_199 rfl (lv_at hl 2 rfl) ?_
                        refine i_add hx hb dX11_hangs_200 iz9 i5 (lo := 0) (hi := 783) (by decide) (fun z10 ez10 mz10 iz10 => ?_)
                        refine t_lald C h t_178 tq8 (by decide) wf_73 (iv_in iz10 (by decide)) dX11_hangs_201 (fun w11 => ?_)
                        refine t_last C h t_178 o_178 tq7 (by decide) (by decide) wf_74 fw_74 (iv_in i5 (by decide)) dX11_hangs_202 (fun f12 H locs h tf12 of12 hq => ?_)
                        have k13 := atp.tg k178_u0_26 hq hu0 (by decide)
                        have k14 := atp.tg k178_ql_pre hq hql (by decide)
                        refine i_inc hx hb dX11_hangs_203 hl (k := 2) rfl i5 rfl (lo := 1) (hi := 28) (by decide) (by decide) (lv' := fun v => [(2, .int v), (0, .ref u0), (1, .int v2_1)]) (fun _ => rfl) (fun z15 ls ez15 mz15 iz15 hl => ?_)
                        refine lv_goto (tgt := 178) hx hb dX11_hangs_206 (by decide) ?_
                        exact ih178 ls f12 H locs z15 (show 28 - z15.toInt < _ by omega) (lv_cons hl 1 rfl (lv_cons hl 2 rfl (lv_cons hl 0 rfl (lv_nil hl)))) h tf12 of12 (iv_w iz15 (by decide)) k13 k14
                  refine lv_iload_n hx hb dX11_hangs_87 rfl (lv_at hl 2 rfl) ?_
                  refine lv_iload_n hx hb dX11_hangs_88 rfl (lv_at hl 1 rfl) ?_
                  refine lv_icmp_ge (tgt := 152) hx hb dX11_hangs_89 (by decide) (fun c16 => ?_) (fun c16 => ?_)
                  · have c17 : v2_1.toInt ≤ v87_2.toInt := Int32.le_iff_toInt_le.mp c16
                    refine lv_aload_n hx hb dX11_hangs_152 rfl (lv_at hl 0 rfl) ?_
                    refine t_getfd C h t_87 hu0 (by decide) wf_60 (v := .ref ql) k87_u0_26 fl_X11_66 dX11_hangs_153 ?_
                    refine lv_iload_n hx hb dX11_hangs_156 rfl (lv_at hl 1 rfl) ?_
                    refine lv_aload_n hx hb dX11_hangs_157 rfl (lv_at hl 0 rfl) ?_
                    refine lv_iload_n hx hb dX11_hangs_158 rfl (lv_at hl 1 rfl) ?_
                    obtain ⟨_, r21⟩ := t_rec t_87 hu0 (by decide) wf_60
                    refine k_i (r_V C h hl (As := [.int v2_1]) (rest := [.int v2_1, .ref ql]) (s_X11_leadOf l D G b0 τ f_87 t_87 u0 hu0 v2_1 jv12_1) r21 (Cn := RX11) (T := TX11) (N := 32) rfl rfl mk_X11_leadOf w_1969 w_1971 w_85 w_1972 ⟨Nat.le_of_ble_eq_true rfl, Nat.le_of_ble_eq_true rfl⟩ rfl (Nat.le_of_ble_eq_true rfl) ⟨Nat.le_of_ble_eq_true rfl, Nat.le_of_ble_eq_true rfl⟩ rfl dX11_hangs_159) h (fun r22 f23 H locs p24 h => ?_)
                    obtain ⟨ir22, tf23, ogf23⟩ := p24
                    have egf23 := Fr.nil2 ogf23
                    subst egf23
                    refine t_leadw C h t_87 o_87 hql (by decide) k87_ql_pre (iv_in jv12_1 (by decide)) (iv_w ir22 (by decide)) dX11_hangs_162 (fun f25 H locs h tf25 of25 hq hp_ => ?_)
                    have k26 := atp.tg k87_u0_26 hq hu0 (by decide)
                    have k27 := hp_
                    refine lv_aload_n hx hb dX11_hangs_163 rfl (lv_at hl 0 rfl) ?_
                    refine t_getfd C h tf25 hu0 (by decide) wf_60 (v := .ref ql) k26 fl_X11_66 dX11_hangs_164 ?_
                    refine lv_iload_n hx hb dX11_hangs_167 rfl (lv_at hl 1 rfl) ?_
                    refine t_leadc C h tf25 hql k27 (iv_in jv12_1 (by decide)) dX11_hangs_168 (fun z28 iz28 k29 => ?_)
                    refine lv_iconst (v := -1) hx hb dX11_hangs_169 (by decide) ?_
                    refine lv_icmp_eq (tgt := 176) hx hb dX11_hangs_170 (by decide) (fun c30 => ?_) (fun c30 => ?_)
                    · have c31 : z28.toInt = (-1) := congrArg Int32.toInt c30
                      have i32 : iv z28 (-1) (-1) := iv_Q c31 iz28 (iv_k (x := (-1)) (k := (-1)) rfl) (by decide)
                      refine lv_iconst (v := 0) hx hb dX11_hangs_176 (by decide) ?_
                      refine lv_istore_n (lv' := [(2, .int 0), (0, .ref u0), (1, .int v2_1)]) hx hb dX11_hangs_177 rfl hl (by decide) rfl (fun ls hl => ?_)
                      exact L178 29 ls f25 H locs 0 (by decide) (lv_cons hl 1 rfl (lv_cons hl 2 rfl (lv_cons hl 0 rfl (lv_nil hl)))) h tf25 of25 ⟨by decide, by decide⟩ k26 k27
                    · have c33 : z28.toInt ≠ (-1) := fun z_ => c30 (Int32.toInt_inj.mp z_)
                      have i34 : iv z28 0 60 := iv_Nl c33 iz28 (by decide)
                      refine lv_goto (tgt := 211) hx hb dX11_hangs_173 (by decide) ?_
                      refine i_inc hx hb dX11_hangs_211 hl (k := 1) rfl jv12_1 rfl (lo := 1) (hi := 28) (by decide) (by decide) (lv' := fun v => [(1, .int v), (0, .ref u0), (2, .int v87_2)]) (fun _ => rfl) (fun z35 ls ez35 mz35 iz35 hl => ?_)
                      have k36 : atp f25 ql (lpre G z35.toInt) := by rw [show z35.toInt = _ + 1 from mz35]; exact (k29 (by omega))
                      refine lv_goto (tgt := 2) hx hb dX11_hangs_214 (by decide) ?_
                      exact ih2 ls f25 H locs z35 (show 28 - z35.toInt < _ by omega) (lv_cons hl 1 rfl (lv_cons hl 0 rfl (lv_nil hl))) h tf25 of25 (iv_w iz35 (by decide)) k26 k36
                  · have c18 : v87_2.toInt < v2_1.toInt := Int32.lt_iff_toInt_lt.mp (iv_nle c16)
                    have i19 : iv v87_2 0 26 := iv_Ll c18 iv87_2 jv12_1 (by decide)
                    have i20 : iv v2_1 1 27 := iv_Lr c18 iv87_2 jv12_1 (by decide)
                    refine lv_aload_n hx hb dX11_hangs_92 rfl (lv_at hl 0 rfl) ?_
                    refine t_getr (tq := 72) C h t_87 hu0 (by decide) wf_60 rfl fl_X11_57 dX11_hangs_93 (fun q37 tq37 => ?_)
                    refine lv_bipush (v := 61) hx hb dX11_hangs_96 (by decide) ?_
                    refine lv_iload_n hx hb dX11_hangs_98 rfl (lv_at hl 1 rfl) ?_
                    refine i_cmul hx hb dX11_hangs_99 (k := 61) rfl i20 (lo := 61) (hi := 1647) (by decide) (fun z38 ez38 mz38 iz38 => ?_)
                    refine lv_aload_n hx hb dX11_hangs_100 rfl (lv_at hl 0 rfl) ?_
                    refine t_getfd C h t_87 hu0 (by decide) wf_60 (v := .ref ql) k87_u0_26 fl_X11_66 dX11_hangs_101 ?_
                    refine lv_iload_n hx hb dX11_hangs_104 rfl (lv_at hl 2 rfl) ?_
                    refine t_lead C h t_87 hql k87_ql_pre (iv_in i19 (by decide)) (by omega) dX11_hangs_105 (fun z39 iz39 => ?_)
                    refine i_add hx hb dX11_hangs_106 iz38 iz39 (lo := 61) (hi := 1707) (by decide) (fun z40 ez40 mz40 iz40 => ?_)
                    refine t_lald C h t_87 tq37 (by decide) wf_72 (iv_in iz40 (by decide)) dX11_hangs_107 (fun w41 => ?_)
                    refine lv_lstore_n (lv' := [(3, .long w41), (0, .ref u0), (1, .int v2_1), (2, .int v87_2)]) hx hb dX11_hangs_108 rfl hl (by decide) rfl (fun ls hl => ?_)
                    refine lv_lload_n hx hb dX11_hangs_109 rfl (lv_at hl 0 rfl) ?_
                    refine lv_lconst (v := 0) hx hb dX11_hangs_110 (by decide) ?_
                    refine W.lcmp hx hb dX11_hangs_111 (i_topc (fun z42 ez42 mz42 iz42 => ?_))
                    refine lv_if_eq (tgt := 146) hx hb dX11_hangs_112 (by decide) (fun c43 => ?_) (fun c43 => ?_)
                    · have c44 : z42.toInt = 0 := congrArg Int32.toInt c43
                      have i45 : iv z42 0 0 := iv_Q c44 iz42 (iv_k (x := 0) (k := 0) rfl) (by decide)
                      refine i_inc hx hb dX11_hangs_146 hl (k := 3) rfl i19 rfl (lo := 1) (hi := 27) (by decide) (by decide) (lv' := fun v => [(2, .int v), (3, .long w41), (0, .ref u0), (1, .int v2_1)]) (fun _ => rfl) (fun z47 ls ez47 mz47 iz47 hl => ?_)
                      refine lv_goto (tgt := 87) hx hb dX11_hangs_149 (by decide) ?_
                      exact ih87 ls f_87 H locs z47 (show 27 - z47.toInt < _ by omega) (lv_cons hl 2 rfl (lv_cons hl 3 rfl (lv_cons hl 0 rfl (lv_nil hl)))) h t_87 o_87 (iv_w iz47 (by decide)) k87_u0_26 k87_ql_pre
                    · have c46 : z42.toInt ≠ 0 := fun z_ => c43 (Int32.toInt_inj.mp z_)
                      refine lv_aload_n hx hb dX11_hangs_115 rfl (lv_at hl 1 rfl) ?_
                      refine lv_iload_n hx hb dX11_hangs_116 rfl (lv_at hl 2 rfl) ?_
                      refine lv_iload_n hx hb dX11_hangs_117 rfl (lv_at hl 3 rfl) ?_
                      refine lv_lload_n hx hb dX11_hangs_118 rfl (lv_at hl 0 rfl) ?_
                      refine lv_aload_n hx hb dX11_hangs_119 rfl (lv_at hl 1 rfl) ?_
                      refine t_getr (tq := 72) C h t_87 hu0 (by decide) wf_60 rfl fl_X11_57 dX11_hangs_120 (fun q48 tq48 => ?_)
                      refine lv_bipush (v := 61) hx hb dX11_hangs_123 (by decide) ?_
                      refine lv_iload_n hx hb dX11_hangs_125 rfl (lv_at hl 3 rfl) ?_
                      refine i_cmul hx hb dX11_hangs_126 (k := 61) rfl i19 (lo := 0) (hi := 1586) (by decide) (fun z49 ez49 mz49 iz49 => ?_)
                      refine lv_aload_n hx hb dX11_hangs_127 rfl (lv_at hl 1 rfl) ?_
                      refine t_getfd C h t_87 hu0 (by decide) wf_60 (v := .ref ql) k87_u0_26 fl_X11_66 dX11_hangs_128 ?_
                      refine lv_iload_n hx hb dX11_hangs_131 rfl (lv_at hl 3 rfl) ?_
                      refine t_lead C h t_87 hql k87_ql_pre (iv_in i19 (by decide)) (by omega) dX11_hangs_132 (fun z50 iz50 => ?_)
                      refine i_add hx hb dX11_hangs_133 iz49 iz50 (lo := 0) (hi := 1646) (by decide) (fun z51 ez51 mz51 iz51 => ?_)
                      refine t_lald C h t_87 tq48 (by decide) wf_72 (iv_in iz51 (by decide)) dX11_hangs_134 (fun w52 => ?_)
                      refine k_l (r_S C h hl (As := [.long w52]) (rest := [.long w41, .int v87_2, .int v2_1, .ref u0]) (s_X11_inverse l D G b0 τ f_87 t_87 w52) mk_X11_inverse w_1800 w_1801 w_1802 ⟨Nat.le_of_ble_eq_true rfl, Nat.le_of_ble_eq_true rfl⟩ rfl (Nat.le_of_ble_eq_true rfl) ⟨Nat.le_of_ble_eq_true rfl, Nat.le_of_ble_eq_true rfl⟩ rfl dX11_hangs_135) h (fun r53 f54 H locs p55 h => ?_)
                      obtain ⟨ir53, tf54, ogf54⟩ := p55
                      have egf54 := Fr.nil2 ogf54
                      subst egf54
                      refine lv_lmul hx hb dX11_hangs_138 (lv_topl (fun w56 ew56 => ?_))
                      refine lv_ldc2 (v := 1000003) hx hb hown (hts _ w_1719) dX11_hangs_139 ?_
                      refine lv_lrem hx hb dX11_hangs_142 (by decide) (i_topl (lrem_iv (k := 1000003) rfl (by decide) (lo := -1000002) (hi := 1000002) (by decide)) (fun w57 ew57 iw57 => ?_))
                      obtain ⟨_, r58⟩ := t_rec t_87 hu0 (by decide) wf_60
                      refine k_v (r_V C h hl (As := [.int v2_1, .int v87_2, .long w57]) (rest := []) (s_X11_less l D G b0 τ f_87 t_87 u0 hu0 v2_1 (iv_w i20 (by decide)) v87_2 (iv_w i19 (by decide)) w57) r58 (Cn := RX11) (T := TX11) (N := 32) rfl rfl mk_X11_less w_1965 w_1967 w_84 w_1968 ⟨Nat.le_of_ble_eq_true rfl, Nat.le_of_ble_eq_true rfl⟩ rfl (Nat.le_of_ble_eq_true rfl) ⟨Nat.le_of_ble_eq_true rfl, Nat.le_of_ble_eq_true rfl⟩ rfl dX11_hangs_143) h (fun f60 H locs p61 h => ?_)
                      obtain ⟨tf60, ogf60⟩ := p61
                      have of60 : Fr [72, 73, 74, 75] τ f f60 := Fr.tr o_87 ogf60 (by decide) (by decide)
                      have k62 := atp.fr k87_u0_26 ogf60 hu0 (by decide)
                      have k63 := atp.fr k87_ql_pre ogf60 hql (by decide)
                      refine i_inc hx hb dX11_hangs_146 hl (k := 3) rfl i19 rfl (lo := 1) (hi := 27) (by decide) (by decide) (lv' := fun v => [(2, .int v), (3, .long w41), (0, .ref u0), (1, .int v2_1)]) (fun _ => rfl) (fun z64 ls ez64 mz64 iz64 hl => ?_)
                      refine lv_goto (tgt := 87) hx hb dX11_hangs_149 (by decide) ?_
                      exact ih87 ls f60 H locs z64 (show 27 - z64.toInt < _ by omega) (lv_cons hl 2 rfl (lv_cons hl 3 rfl (lv_cons hl 0 rfl (lv_nil hl)))) h tf60 of60 (iv_w iz64 (by decide)) k62 k63
              refine lv_iload_n hx hb dX11_hangs_50 rfl (lv_at hl 2 rfl) ?_
              refine lv_aload_n hx hb dX11_hangs_51 rfl (lv_at hl 0 rfl) ?_
              refine t_geti C h t_50 hu0 (by decide) wf_60 rfl fl_X11_370 dX11_hangs_52 (fun z65 iz65 => ?_)
              refine lv_icmp_ge (tgt := 85) hx hb dX11_hangs_55 (by decide) (fun c66 => ?_) (fun c66 => ?_)
              · have c67 : z65.toInt ≤ v50_2.toInt := Int32.le_iff_toInt_le.mp c66
                refine lv_iconst (v := 0) hx hb dX11_hangs_85 (by decide) ?_
                refine lv_istore_n (lv' := [(2, .int 0), (0, .ref u0), (1, .int v2_1)]) hx hb dX11_hangs_86 rfl hl (by decide) rfl (fun ls hl => ?_)
                exact L87 28 ls f_50 H locs 0 (by decide) (lv_cons hl 1 rfl (lv_cons hl 2 rfl (lv_cons hl 0 rfl (lv_nil hl)))) h t_50 o_50 ⟨by decide, by decide⟩ k50_u0_26 k50_ql_pre
              · have c68 : v50_2.toInt < z65.toInt := Int32.lt_iff_toInt_lt.mp (iv_nle c66)
                have i69 : iv v50_2 0 27 := iv_Ll c68 iv50_2 iz65 (by decide)
                have i70 : iv z65 1 28 := iv_Lr c68 iv50_2 iz65 (by decide)
                refine lv_aload_n hx hb dX11_hangs_58 rfl (lv_at hl 0 rfl) ?_
                refine t_getr (tq := 73) C h t_50 hu0 (by decide) wf_60 rfl fl_X11_60 dX11_hangs_59 (fun q71 tq71 => ?_)
                refine lv_bipush (v := 28) hx hb dX11_hangs_62 (by decide) ?_
                refine lv_iload_n hx hb dX11_hangs_64 rfl (lv_at hl 1 rfl) ?_
                refine i_cmul hx hb dX11_hangs_65 (k := 28) rfl jv12_1 (lo := 0) (hi := 756) (by decide) (fun z72 ez72 mz72 iz72 => ?_)
                refine lv_iload_n hx hb dX11_hangs_66 rfl (lv_at hl 2 rfl) ?_
                refine i_add hx hb dX11_hangs_67 iz72 i69 (lo := 0) (hi := 783) (by decide) (fun z73 ez73 mz73 iz73 => ?_)
                refine lv_iload_n hx hb dX11_hangs_68 rfl (lv_at hl 2 rfl) ?_
                refine lv_iload_n hx hb dX11_hangs_69 rfl (lv_at hl 1 rfl) ?_
                refine lv_icmp_ne (tgt := 77) hx hb dX11_hangs_70 (by decide) (fun c74 => ?_) (fun c74 => ?_)
                · have c75 : v50_2.toInt ≠ v2_1.toInt := fun z_ => c74 (Int32.toInt_inj.mp z_)
                  refine lv_lconst (v := 0) hx hb dX11_hangs_77 (by decide) ?_
                  refine t_last C h t_50 o_50 tq71 (by decide) (by decide) wf_73 fw_73 (iv_in iz73 (by decide)) dX11_hangs_78 (fun f77 H locs h tf77 of77 hq => ?_)
                  have k78 := atp.tg k50_u0_26 hq hu0 (by decide)
                  have k79 := atp.tg k50_ql_pre hq hql (by decide)
                  refine i_inc hx hb dX11_hangs_79 hl (k := 2) rfl i69 rfl (lo := 1) (hi := 28) (by decide) (by decide) (lv' := fun v => [(2, .int v), (0, .ref u0), (1, .int v2_1)]) (fun _ => rfl) (fun z80 ls ez80 mz80 iz80 hl => ?_)
                  refine lv_goto (tgt := 50) hx hb dX11_hangs_82 (by decide) ?_
                  exact ih50 ls f77 H locs z80 (show 28 - z80.toInt < _ by omega) (lv_cons hl 1 rfl (lv_cons hl 2 rfl (lv_cons hl 0 rfl (lv_nil hl)))) h tf77 of77 (iv_w iz80 (by decide)) k78 k79
                · have c76 : v50_2.toInt = v2_1.toInt := congrArg Int32.toInt c74
                  refine lv_lconst (v := 1) hx hb dX11_hangs_73 (by decide) ?_
                  refine lv_goto (tgt := 78) hx hb dX11_hangs_74 (by decide) ?_
                  refine t_last C h t_50 o_50 tq71 (by decide) (by decide) wf_73 fw_73 (iv_in iz73 (by decide)) dX11_hangs_78 (fun f81 H locs h tf81 of81 hq => ?_)
                  have k82 := atp.tg k50_u0_26 hq hu0 (by decide)
                  have k83 := atp.tg k50_ql_pre hq hql (by decide)
                  refine i_inc hx hb dX11_hangs_79 hl (k := 2) rfl i69 rfl (lo := 1) (hi := 28) (by decide) (by decide) (lv' := fun v => [(2, .int v), (0, .ref u0), (1, .int v2_1)]) (fun _ => rfl) (fun z84 ls ez84 mz84 iz84 hl => ?_)
                  refine lv_goto (tgt := 50) hx hb dX11_hangs_82 (by decide) ?_
                  exact ih50 ls f81 H locs z84 (show 28 - z84.toInt < _ by omega) (lv_cons hl 1 rfl (lv_cons hl 2 rfl (lv_cons hl 0 rfl (lv_nil hl)))) h tf81 of81 (iv_w iz84 (by decide)) k82 k83
          refine lv_iload_n hx hb dX11_hangs_12 rfl (lv_at hl 2 rfl) ?_
          refine lv_aload_n hx hb dX11_hangs_13 rfl (lv_at hl 0 rfl) ?_
          refine t_geti C h t_12 hu0 (by decide) wf_60 rfl fl_X11_367 dX11_hangs_14 (fun z85 iz85 => ?_)
          refine lv_icmp_ge (tgt := 48) hx hb dX11_hangs_17 (by decide) (fun c86 => ?_) (fun c86 => ?_)
          · have c87 : z85.toInt ≤ v12_2.toInt := Int32.le_iff_toInt_le.mp c86
            refine lv_iconst (v := 0) hx hb dX11_hangs_48 (by decide) ?_
            refine lv_istore_n (lv' := [(2, .int 0), (0, .ref u0), (1, .int v2_1)]) hx hb dX11_hangs_49 rfl hl (by decide) rfl (fun ls hl => ?_)
            exact L50 29 ls f_12 H locs 0 (by decide) (lv_cons hl 1 rfl (lv_cons hl 2 rfl (lv_cons hl 0 rfl (lv_nil hl)))) h t_12 o_12 ⟨by decide, by decide⟩ k12_u0_26 k12_ql_pre
          · have c88 : v12_2.toInt < z85.toInt := Int32.lt_iff_toInt_lt.mp (iv_nle c86)
            have i89 : iv v12_2 0 31 := iv_Ll c88 iv12_2 iz85 (by decide)
            have i90 : iv z85 1 32 := iv_Lr c88 iv12_2 iz85 (by decide)
            refine lv_aload_n hx hb dX11_hangs_20 rfl (lv_at hl 0 rfl) ?_
            refine t_getr (tq := 72) C h t_12 hu0 (by decide) wf_60 rfl fl_X11_57 dX11_hangs_21 (fun q91 tq91 => ?_)
            refine lv_bipush (v := 61) hx hb dX11_hangs_24 (by decide) ?_
            refine lv_iload_n hx hb dX11_hangs_26 rfl (lv_at hl 1 rfl) ?_
            refine i_cmul hx hb dX11_hangs_27 (k := 61) rfl jv12_1 (lo := 0) (hi := 1647) (by decide) (fun z92 ez92 mz92 iz92 => ?_)
            refine lv_iload_n hx hb dX11_hangs_28 rfl (lv_at hl 2 rfl) ?_
            refine i_add hx hb dX11_hangs_29 iz92 i89 (lo := 0) (hi := 1678) (by decide) (fun z93 ez93 mz93 iz93 => ?_)
            refine lv_aload_n hx hb dX11_hangs_30 rfl (lv_at hl 0 rfl) ?_
            refine t_getr (tq := 72) C h t_12 hu0 (by decide) wf_60 rfl fl_X11_54 dX11_hangs_31 (fun q94 tq94 => ?_)
            refine lv_bipush (v := 61) hx hb dX11_hangs_34 (by decide) ?_
            refine lv_iload_n hx hb dX11_hangs_36 rfl (lv_at hl 1 rfl) ?_
            refine i_cmul hx hb dX11_hangs_37 (k := 61) rfl jv12_1 (lo := 0) (hi := 1647) (by decide) (fun z95 ez95 mz95 iz95 => ?_)
            refine lv_iload_n hx hb dX11_hangs_38 rfl (lv_at hl 2 rfl) ?_
            refine i_add hx hb dX11_hangs_39 iz95 i89 (lo := 0) (hi := 1678) (by decide) (fun z96 ez96 mz96 iz96 => ?_)
            refine t_lald C h t_12 tq94 (by decide) wf_72 (iv_in iz96 (by decide)) dX11_hangs_40 (fun w97 => ?_)
            refine t_last C h t_12 o_12 tq91 (by decide) (by decide) wf_72 fw_72 (iv_in iz93 (by decide)) dX11_hangs_41 (fun f98 H locs h tf98 of98 hq => ?_)
            have k99 := atp.tg k12_u0_26 hq hu0 (by decide)
            have k100 := atp.tg k12_ql_pre hq hql (by decide)
            refine i_inc hx hb dX11_hangs_42 hl (k := 2) rfl i89 rfl (lo := 1) (hi := 32) (by decide) (by decide) (lv' := fun v => [(2, .int v), (0, .ref u0), (1, .int v2_1)]) (fun _ => rfl) (fun z101 ls ez101 mz101 iz101 hl => ?_)
            refine lv_goto (tgt := 12) hx hb dX11_hangs_45 (by decide) ?_
            exact ih12 ls f98 H locs z101 (show 32 - z101.toInt < _ by omega) (lv_cons hl 1 rfl (lv_cons hl 2 rfl (lv_cons hl 0 rfl (lv_nil hl)))) h tf98 of98 jv12_1 (iv_w iz101 (by decide)) k99 k100
      refine lv_iload_n hx hb dX11_hangs_2 rfl (lv_at hl 1 rfl) ?_
      refine lv_aload_n hx hb dX11_hangs_3 rfl (lv_at hl 0 rfl) ?_
      refine t_geti C h t_2 hu0 (by decide) wf_60 rfl fl_X11_370 dX11_hangs_4 (fun z102 iz102 => ?_)
      refine lv_icmp_ge (tgt := 217) hx hb dX11_hangs_7 (by decide) (fun c103 => ?_) (fun c103 => ?_)
      · have c104 : z102.toInt ≤ v2_1.toInt := Int32.le_iff_toInt_le.mp c103
        refine lv_iconst (v := 0) hx hb dX11_hangs_217 (by decide) ?_
        exact u_zret C h hr hQ ⟨by decide, by decide⟩ (⟨⟨by decide, by decide⟩, t_2, o_2⟩) (Nat.le_of_ble_eq_true rfl) (Nat.le_of_ble_eq_true rfl) dX11_hangs_218
      · have c105 : v2_1.toInt < z102.toInt := Int32.lt_iff_toInt_lt.mp (iv_nle c103)
        have i106 : iv v2_1 0 27 := iv_Ll c105 iv2_1 iz102 (by decide)
        have i107 : iv z102 1 28 := iv_Lr c105 iv2_1 iz102 (by decide)
        refine lv_iconst (v := 0) hx hb dX11_hangs_10 (by decide) ?_
        refine lv_istore_n (lv' := [(2, .int 0), (0, .ref u0), (1, .int v2_1)]) hx hb dX11_hangs_11 rfl hl (by decide) rfl (fun ls hl => ?_)
        exact L12 33 ls f_2 H locs 0 (by decide) (lv_cons hl 1 rfl (lv_cons hl 2 rfl (lv_cons hl 0 rfl (lv_nil hl)))) h t_2 o_2 i106 ⟨by decide, by decide⟩ k2_u0_26 k2_ql_pre
  refine lv_iconst (v := 0) hx hb dX11_hangs_0 (by decide) ?_
  refine lv_istore_n (lv' := [(1, .int 0), (0, .ref u0)]) hx hb dX11_hangs_1 rfl hl (by decide) rfl (fun ls hl => ?_)
  exact L2 29 ls f s.heap [] 0 (by decide) (lv_cons hl 1 rfl (lv_cons hl 0 rfl (lv_nil hl))) h t o ⟨by decide, by decide⟩ kql kpre
abbrev rm_s_X11_laysPowers : Room := { frames := 0, cells := 0, slots := 0, locals := 0 }
set_option maxRecDepth 100000 in
set_option maxHeartbeats 4000000 in
theorem s_X11_laysPowers (l : Launch) (D : va_G) (G : Nat → Nat) (b0 : Nat) (τ : Nat → Nat) (f : hM) (t : TI G 9 τ f) (u0 : Nat) (hu0 : τ u0 = 60) : mV l yX11_laysPowers cX11_laysPowers 6 rm_s_X11_laysPowers D G b0 f [.ref u0] (fun f1 => TI G 9 τ f1 ∧ Fr [76] τ f f1) := by
  refine met2 (own := RX11) (by decide) rfl (Nat.le_of_ble_eq_true rfl) ?_
  intro p e s m args below meth c ls Q hQ C hr hini hl h
  have hl : lv_has ls 6 [(0, .ref u0)] := hl
  obtain ⟨hx, hb, hml, hown, hts, hE0, hlk⟩ := id C
  have o := Fr.rf [76] τ f
  have L2 : ∀ (n2 : Nat) (ls : Array Slot) (f_2 : hM) (H : Heap) (locs : List Loc) (v2_1 : Int32), 61 - v2_1.toInt < (n2 : Int) → lv_has ls 6 [(0, .ref u0), (1, .int v2_1)] → hw D b0 s.heap f_2 H locs → TI G 9 τ f_2 → Fr [76] τ f f_2 → iv v2_1 0 61 → W p l e rm_s_X11_laysPowers s m args below meth c H locs 0 0 Q (F0 m 2 ls []) := by
    intro n2
    induction n2 with
    | zero => intro ls f_2 H locs v2_1 hm2 hl h t_2 o_2 iv2_1; exact absurd hm2 (by omega)
    | succ n2 ih2 =>
      intro ls f_2 H locs v2_1 hm2 hl h t_2 o_2 iv2_1
      have L31 : ∀ (n31 : Nat) (ls : Array Slot) (f_31 : hM) (H : Heap) (locs : List Loc) (v31_1 : Int32), 4 - v31_1.toInt < (n31 : Int) → lv_has ls 6 [(0, .ref u0), (1, .int v31_1)] → hw D b0 s.heap f_31 H locs → TI G 9 τ f_31 → Fr [76] τ f f_31 → iv v31_1 1 4 → W p l e rm_s_X11_laysPowers s m args below meth c H locs 0 0 Q (F0 m 31 ls []) := by
        intro n31
        induction n31 with
        | zero => intro ls f_31 H locs v31_1 hm31 hl h t_31 o_31 iv31_1; exact absurd hm31 (by omega)
        | succ n31 ih31 =>
          intro ls f_31 H locs v31_1 hm31 hl h t_31 o_31 iv31_1
          have L38 : ∀ (n38 : Nat) (ls : Array Slot) (f_38 : hM) (H : Heap) (locs : List Loc) (v38_2 : Int32), 61 - v38_2.toInt < (n38 : Int) → lv_has ls 6 [(0, .ref u0), (1, .int v31_1), (2, .int v38_2)] → hw D b0 s.heap f_38 H locs → TI G 9 τ f_38 → Fr [76] τ f f_38 → iv v31_1 1 3 → iv v38_2 0 61 → W p l e rm_s_X11_laysPowers s m args below meth c H locs 0 0 Q (F0 m 38 ls []) := by
            intro n38
            induction n38 with
            | zero => intro ls f_38 H locs v38_2 hm38 hl h t_38 o_38 jv38_1 iv38_2; exact absurd hm38 (by omega)
            | succ n38 ih38 =>
              intro ls f_38 H locs v38_2 hm38 hl h t_38 o_38 jv38_1 iv38_2
              have L49 : ∀ (n49 : Nat) (ls : Array Slot) (f_49 : hM) (H : Heap) (locs : List Loc) (v49_3 : Int64) (v49_5 : Int32), 61 - v49_5.toInt < (n49 : Int) → lv_has ls 6 [(0, .ref u0), (1, .int v31_1), (2, .int v38_2), (3, .long v49_3), (5, .int v49_5)] → hw D b0 s.heap f_49 H locs → TI G 9 τ f_49 → Fr [76] τ f f_49 → iv v38_2 0 60 → iv v49_5 0 61 → W p l e rm_s_X11_laysPowers s m args below meth c H locs 0 0 Q (F0 m 49 ls []) := by
                intro n49
                induction n49 with
                | zero => intro ls f_49 H locs v49_3 v49_5 hm49 hl h t_49 o_49 jv49_2 iv49_5; exact absurd hm49 (by omega)
                | succ n49 ih49 =>
                  intro ls f_49 H locs v49_3 v49_5 hm49 hl h t_49 o_49 jv49_2 iv49_5
                  refine lv_iload hx hb dX11_laysPowers_49 (lv_at hl 4 rfl) ?_
                  refine lv_iload_n hx hb dX11_laysPowers_51 rfl (lv_at hl 2 rfl) ?_
                  refine lv_icmp_gt (tgt := 93) hx hb dX11_laysPowers_52 (by decide) (fun c1 => ?_) (fun c1 => ?_)
                  · have c2 : v38_2.toInt < v49_5.toInt := Int32.lt_iff_toInt_lt.mp c1
                    have i3 : iv v49_5 1 61 := iv_Lr c2 jv49_2 iv49_5 (by decide)
                    refine lv_aload_n hx hb dX11_laysPowers_93 rfl (lv_at hl 0 rfl) ?_
                    refine t_getr (tq := 76) C h t_49 hu0 (by decide) wf_60 rfl fl_X11_69 dX11_laysPowers_94 (fun q6 tq6 => ?_)
                    refine lv_bipush (v := 61) hx hb dX11_laysPowers_97 (by decide) ?_
                    refine lv_iload_n hx hb dX11_laysPowers_99 rfl (lv_at hl 1 rfl) ?_
                    refine i_cmul hx hb dX11_laysPowers_100 (k := 61) rfl jv38_1 (lo := 61) (hi := 183) (by decide) (fun z7 ez7 mz7 iz7 => ?_)
                    refine lv_iload_n hx hb dX11_laysPowers_101 rfl (lv_at hl 2 rfl) ?_
                    refine i_add hx hb dX11_laysPowers_102 iz7 jv49_2 (lo := 61) (hi := 243) (by decide) (fun z8 ez8 mz8 iz8 => ?_)
                    refine lv_lload_n hx hb dX11_laysPowers_103 rfl (lv_at hl 3 rfl) ?_
                    refine lv_ldc2 (v := 1000003) hx hb hown (hts _ w_1719) dX11_laysPowers_104 ?_
                    refine lv_lrem hx hb dX11_laysPowers_107 (by decide) (i_topl (lrem_iv (k := 1000003) rfl (by decide) (lo := -1000002) (hi := 1000002) (by decide)) (fun w9 ew9 iw9 => ?_))
                    refine t_last C h t_49 o_49 tq6 (by decide) (by decide) wf_76 fw_76 (iv_in iz8 (by decide)) dX11_laysPowers_108 (fun f10 H locs h tf10 of10 hq => ?_)
                    refine i_inc hx hb dX11_laysPowers_109 hl (k := 2) rfl jv49_2 rfl (lo := 1) (hi := 61) (by decide) (by decide) (lv' := fun v => [(2, .int v), (0, .ref u0), (1, .int v31_1), (3, .long v49_3), (5, .int v49_5)]) (fun _ => rfl) (fun z11 ls ez11 mz11 iz11 hl => ?_)
                    refine lv_goto (tgt := 38) hx hb dX11_laysPowers_112 (by decide) ?_
                    exact ih38 ls f10 H locs z11 (show 61 - z11.toInt < _ by omega) (lv_cons hl 1 rfl (lv_cons hl 2 rfl (lv_cons hl 0 rfl (lv_nil hl)))) h tf10 of10 jv38_1 (iv_w iz11 (by decide))
                  · have c4 : v49_5.toInt ≤ v38_2.toInt := Int32.le_iff_toInt_le.mp (iv_nlt c1)
                    have i5 : iv v49_5 0 60 := iv_El c4 iv49_5 jv49_2 (by decide)
                    refine lv_lload_n hx hb dX11_laysPowers_55 rfl (lv_at hl 3 rfl) ?_
                    refine lv_aload_n hx hb dX11_laysPowers_56 rfl (lv_at hl 0 rfl) ?_
                    refine t_getr (tq := 76) C h t_49 hu0 (by decide) wf_60 rfl fl_X11_69 dX11_laysPowers_57 (fun q12 tq12 => ?_)
                    refine lv_bipush (v := 61) hx hb dX11_laysPowers_60 (by decide) ?_
                    refine lv_iload_n hx hb dX11_laysPowers_62 rfl (lv_at hl 1 rfl) ?_
                    refine lv_iconst (v := 1) hx hb dX11_laysPowers_63 (by decide) ?_
                    refine i_subk hx hb dX11_laysPowers_64 jv38_1 (k := 1) rfl (lo := 0) (hi := 2) (by decide) (fun z13 ez13 mz13 iz13 => ?_)
                    refine i_cmul hx hb dX11_laysPowers_65 (k := 61) rfl iz13 (lo := 0) (hi := 122) (by decide) (fun z14 ez14 mz14 iz14 => ?_)
                    refine lv_iload hx hb dX11_laysPowers_66 (lv_at hl 4 rfl) ?_
                    refine i_add hx hb dX11_laysPowers_68 iz14 i5 (lo := 0) (hi := 182) (by decide) (fun z15 ez15 mz15 iz15 => ?_)
                    refine t_lald C h t_49 tq12 (by decide) wf_76 (iv_in iz15 (by decide)) dX11_laysPowers_69 (fun w16 => ?_)
                    refine lv_aload_n hx hb dX11_laysPowers_70 rfl (lv_at hl 0 rfl) ?_
                    refine t_getr (tq := 69) C h t_49 hu0 (by decide) wf_60 rfl fl_X11_36 dX11_laysPowers_71 (fun q17 tq17 => ?_)
                    refine lv_iload_n hx hb dX11_laysPowers_74 rfl (lv_at hl 2 rfl) ?_
                    refine lv_iload hx hb dX11_laysPowers_75 (lv_at hl 4 rfl) ?_
                    refine i_sub hx hb dX11_laysPowers_77 jv49_2 i5 (lo := (-60)) (hi := 60) (by decide) (fun z18 ez18 mz18 iz18 => ?_)
                    refine t_iald C h t_49 tq17 (by decide) wf_69 (ix_o (by omega)) dX11_laysPowers_78 (fun z19 iz19 => ?_)
                    refine lv_i2l hx hb dX11_laysPowers_79 rfl (i_topL iz19 (fun w20 ew20 mw20 iw20 => ?_))
                    refine lv_lmul hx hb dX11_laysPowers_80 (lv_topl (fun w21 ew21 => ?_))
                    refine lv_ldc2 (v := 1000003) hx hb hown (hts _ w_1719) dX11_laysPowers_81 ?_
                    refine lv_lrem hx hb dX11_laysPowers_84 (by decide) (i_topl (lrem_iv (k := 1000003) rfl (by decide) (lo := -1000002) (hi := 1000002) (by decide)) (fun w22 ew22 iw22 => ?_))
                    refine lv_ladd hx hb dX11_laysPowers_85 (lv_topl (fun w23 ew23 => ?_))
                    refine lv_lstore_n (lv' := [(3, .long w23), (0, .ref u0), (1, .int v31_1), (2, .int v38_2), (5, .int v49_5)]) hx hb dX11_laysPowers_86 rfl hl (by decide) rfl (fun ls hl => ?_)
                    refine i_inc hx hb dX11_laysPowers_87 hl (k := 4) rfl i5 rfl (lo := 1) (hi := 61) (by decide) (by decide) (lv' := fun v => [(5, .int v), (3, .long w23), (0, .ref u0), (1, .int v31_1), (2, .int v38_2)]) (fun _ => rfl) (fun z24 ls ez24 mz24 iz24 hl => ?_)
                    refine lv_goto (tgt := 49) hx hb dX11_laysPowers_90 (by decide) ?_
                    exact ih49 ls f_49 H locs w23 z24 (show 61 - z24.toInt < _ by omega) (lv_cons hl 2 rfl (lv_cons hl 3 rfl (lv_cons hl 4 rfl (lv_cons hl 1 rfl (lv_cons hl 0 rfl (lv_nil hl)))))) h t_49 o_49 jv49_2 (iv_w iz24 (by decide))
              refine lv_iload_n hx hb dX11_laysPowers_38 rfl (lv_at hl 2 rfl) ?_
              refine lv_bipush (v := 61) hx hb dX11_laysPowers_39 (by decide) ?_
              refine lv_icmp_ge (tgt := 115) hx hb dX11_laysPowers_41 (by decide) (fun c25 => ?_) (fun c25 => ?_)
              · have c26 : 61 ≤ v38_2.toInt := Int32.le_iff_toInt_le.mp c25
                have i27 : iv v38_2 61 61 := iv_Er c26 (iv_k (x := 61) (k := 61) rfl) iv38_2 (by decide)
                refine i_inc hx hb dX11_laysPowers_115 hl (k := 1) rfl jv38_1 rfl (lo := 2) (hi := 4) (by decide) (by decide) (lv' := fun v => [(1, .int v), (0, .ref u0), (2, .int v38_2)]) (fun _ => rfl) (fun z30 ls ez30 mz30 iz30 hl => ?_)
                refine lv_goto (tgt := 31) hx hb dX11_laysPowers_118 (by decide) ?_
                exact ih31 ls f_38 H locs z30 (show 4 - z30.toInt < _ by omega) (lv_cons hl 1 rfl (lv_cons hl 0 rfl (lv_nil hl))) h t_38 o_38 (iv_w iz30 (by decide))
              · have c28 : v38_2.toInt < 61 := Int32.lt_iff_toInt_lt.mp (iv_nle c25)
                have i29 : iv v38_2 0 60 := iv_Ll c28 iv38_2 (iv_k (x := 61) (k := 61) rfl) (by decide)
                refine lv_lconst (v := 0) hx hb dX11_laysPowers_44 (by decide) ?_
                refine lv_lstore_n (lv' := [(3, .long 0), (0, .ref u0), (1, .int v31_1), (2, .int v38_2)]) hx hb dX11_laysPowers_45 rfl hl (by decide) rfl (fun ls hl => ?_)
                refine lv_iconst (v := 0) hx hb dX11_laysPowers_46 (by decide) ?_
                refine lv_istore (lv' := [(5, .int 0), (3, .long 0), (0, .ref u0), (1, .int v31_1), (2, .int v38_2)]) hx hb dX11_laysPowers_47 hl (by decide) rfl (fun ls hl => ?_)
                exact L49 62 ls f_38 H locs 0 0 (by decide) (lv_cons hl 2 rfl (lv_cons hl 3 rfl (lv_cons hl 4 rfl (lv_cons hl 1 rfl (lv_cons hl 0 rfl (lv_nil hl)))))) h t_38 o_38 i29 ⟨by decide, by decide⟩
          refine lv_iload_n hx hb dX11_laysPowers_31 rfl (lv_at hl 1 rfl) ?_
          refine lv_iconst (v := 4) hx hb dX11_laysPowers_32 (by decide) ?_
          refine lv_icmp_ge (tgt := 121) hx hb dX11_laysPowers_33 (by decide) (fun c31 => ?_) (fun c31 => ?_)
          · have c32 : 4 ≤ v31_1.toInt := Int32.le_iff_toInt_le.mp c31
            have i33 : iv v31_1 4 4 := iv_Er c32 (iv_k (x := 4) (k := 4) rfl) iv31_1 (by decide)
            exact u_vret C h hr hQ (⟨t_31, o_31⟩) (Nat.le_of_ble_eq_true rfl) (Nat.le_of_ble_eq_true rfl) dX11_laysPowers_121
          · have c34 : v31_1.toInt < 4 := Int32.lt_iff_toInt_lt.mp (iv_nle c31)
            have i35 : iv v31_1 1 3 := iv_Ll c34 iv31_1 (iv_k (x := 4) (k := 4) rfl) (by decide)
            refine lv_iconst (v := 0) hx hb dX11_laysPowers_36 (by decide) ?_
            refine lv_istore_n (lv' := [(2, .int 0), (0, .ref u0), (1, .int v31_1)]) hx hb dX11_laysPowers_37 rfl hl (by decide) rfl (fun ls hl => ?_)
            exact L38 62 ls f_31 H locs 0 (by decide) (lv_cons hl 1 rfl (lv_cons hl 2 rfl (lv_cons hl 0 rfl (lv_nil hl)))) h t_31 o_31 i35 ⟨by decide, by decide⟩
      refine lv_iload_n hx hb dX11_laysPowers_2 rfl (lv_at hl 1 rfl) ?_
      refine lv_bipush (v := 61) hx hb dX11_laysPowers_3 (by decide) ?_
      refine lv_icmp_ge (tgt := 29) hx hb dX11_laysPowers_5 (by decide) (fun c36 => ?_) (fun c36 => ?_)
      · have c37 : 61 ≤ v2_1.toInt := Int32.le_iff_toInt_le.mp c36
        have i38 : iv v2_1 61 61 := iv_Er c37 (iv_k (x := 61) (k := 61) rfl) iv2_1 (by decide)
        refine lv_iconst (v := 1) hx hb dX11_laysPowers_29 (by decide) ?_
        refine lv_istore_n (lv' := [(1, .int 1), (0, .ref u0)]) hx hb dX11_laysPowers_30 rfl hl (by decide) rfl (fun ls hl => ?_)
        exact L31 4 ls f_2 H locs 1 (by decide) (lv_cons hl 1 rfl (lv_cons hl 0 rfl (lv_nil hl))) h t_2 o_2 ⟨by decide, by decide⟩
      · have c39 : v2_1.toInt < 61 := Int32.lt_iff_toInt_lt.mp (iv_nle c36)
        have i40 : iv v2_1 0 60 := iv_Ll c39 iv2_1 (iv_k (x := 61) (k := 61) rfl) (by decide)
        refine lv_aload_n hx hb dX11_laysPowers_8 rfl (lv_at hl 0 rfl) ?_
        refine t_getr (tq := 76) C h t_2 hu0 (by decide) wf_60 rfl fl_X11_69 dX11_laysPowers_9 (fun q41 tq41 => ?_)
        refine lv_iload_n hx hb dX11_laysPowers_12 rfl (lv_at hl 1 rfl) ?_
        refine lv_iload_n hx hb dX11_laysPowers_13 rfl (lv_at hl 1 rfl) ?_
        refine lv_if_ne (tgt := 21) hx hb dX11_laysPowers_14 (by decide) (fun c42 => ?_) (fun c42 => ?_)
        · have c43 : v2_1.toInt ≠ 0 := fun z_ => c42 (Int32.toInt_inj.mp z_)
          have i44 : iv v2_1 1 60 := iv_Nl c43 i40 (by decide)
          refine lv_lconst (v := 0) hx hb dX11_laysPowers_21 (by decide) ?_
          refine t_last C h t_2 o_2 tq41 (by decide) (by decide) wf_76 fw_76 (iv_in i44 (by decide)) dX11_laysPowers_22 (fun f47 H locs h tf47 of47 hq => ?_)
          refine i_inc hx hb dX11_laysPowers_23 hl (k := 1) rfl i44 rfl (lo := 2) (hi := 61) (by decide) (by decide) (lv' := fun v => [(1, .int v), (0, .ref u0)]) (fun _ => rfl) (fun z48 ls ez48 mz48 iz48 hl => ?_)
          refine lv_goto (tgt := 2) hx hb dX11_laysPowers_26 (by decide) ?_
          exact ih2 ls f47 H locs z48 (show 61 - z48.toInt < _ by omega) (lv_cons hl 1 rfl (lv_cons hl 0 rfl (lv_nil hl))) h tf47 of47 (iv_w iz48 (by decide))
        · have c45 : v2_1.toInt = 0 := congrArg Int32.toInt c42
          have i46 : iv v2_1 0 0 := iv_Q c45 i40 (iv_k (x := 0) (k := 0) rfl) (by decide)
          refine lv_lconst (v := 1) hx hb dX11_laysPowers_17 (by decide) ?_
          refine lv_goto (tgt := 22) hx hb dX11_laysPowers_18 (by decide) ?_
          refine t_last C h t_2 o_2 tq41 (by decide) (by decide) wf_76 fw_76 (iv_in i46 (by decide)) dX11_laysPowers_22 (fun f49 H locs h tf49 of49 hq => ?_)
          refine i_inc hx hb dX11_laysPowers_23 hl (k := 1) rfl i46 rfl (lo := 1) (hi := 1) (by decide) (by decide) (lv' := fun v => [(1, .int v), (0, .ref u0)]) (fun _ => rfl) (fun z50 ls ez50 mz50 iz50 hl => ?_)
          refine lv_goto (tgt := 2) hx hb dX11_laysPowers_26 (by decide) ?_
          exact ih2 ls f49 H locs z50 (show 61 - z50.toInt < _ by omega) (lv_cons hl 1 rfl (lv_cons hl 0 rfl (lv_nil hl))) h tf49 of49 (iv_w iz50 (by decide))
  refine lv_iconst (v := 0) hx hb dX11_laysPowers_0 (by decide) ?_
  refine lv_istore_n (lv' := [(1, .int 0), (0, .ref u0)]) hx hb dX11_laysPowers_1 rfl hl (by decide) rfl (fun ls hl => ?_)
  exact L2 62 ls f s.heap [] 0 (by decide) (lv_cons hl 1 rfl (lv_cons hl 0 rfl (lv_nil hl))) h t o ⟨by decide, by decide⟩
abbrev rm_s_X11_laysAll : Room := { frames := 4, cells := 0, slots := 0, locals := 100 }
set_option maxRecDepth 100000 in
set_option maxHeartbeats 4000000 in
theorem s_X11_laysAll (l : Launch) (D : va_G) (G : Nat → Nat) (b0 : Nat) (τ : Nat → Nat) (f : hM) (t : TI G 9 τ f) (u0 : Nat) (hu0 : τ u0 = 60) (u1 : Int32) (hu1 : iv u1 0 7) (u2 : Int32) (hu2 : iv u2 (-2147483648) 2147483647) (hNG : NGs τ f u0) : mV l yX11_laysAll cX11_laysAll 3 rm_s_X11_laysAll D G b0 f [.ref u0, .int u1, .int u2] (fun f1 => TI G 9 τ f1 ∧ Fr [60, 67, 69, 76, 60013, 60014, 60015] τ f f1 ∧ NGs τ f1 u0) := by
  refine met2 (own := RX11) (by decide) rfl (Nat.le_of_ble_eq_true rfl) ?_
  intro p e s m args below meth c ls Q hQ C hr hini hl h
  have hl : lv_has ls 3 [(0, .ref u0), (1, .int u1), (2, .int u2)] := hl
  obtain ⟨hx, hb, hml, hown, hts, hE0, hlk⟩ := id C
  have o := Fr.rf [60, 67, 69, 76, 60013, 60014, 60015] τ f
  refine lv_aload_n hx hb dX11_laysAll_0 rfl (lv_at hl 0 rfl) ?_
  refine lv_iload_n hx hb dX11_laysAll_1 rfl (lv_at hl 1 rfl) ?_
  refine lv_iload_n hx hb dX11_laysAll_2 rfl (lv_at hl 2 rfl) ?_
  refine lv_iconst (v := 0) hx hb dX11_laysAll_3 (by decide) ?_
  refine lv_bipush (v := 60) hx hb dX11_laysAll_4 (by decide) ?_
  refine lv_aload_n hx hb dX11_laysAll_6 rfl (lv_at hl 0 rfl) ?_
  refine t_getr (tq := 69) C h t hu0 (by decide) wf_60 rfl fl_X11_36 dX11_laysAll_7 (fun q1 tq1 => ?_)
  obtain ⟨_, r2⟩ := t_rec t hu0 (by decide) wf_60
  refine k_v (r_V C h hl (As := [.int u1, .int u2, .int 0, .int 60, .ref q1]) (rest := []) (s_X11_laysTerms l D G b0 τ f t u0 hu0 u1 hu1 u2 hu2 0 (iv_w (iv_k (x := 0) (k := 0) rfl) (by decide)) 60 (iv_w (iv_k (x := 60) (k := 60) rfl) (by decide)) q1 tq1 hNG) r2 (Cn := RX11) (T := TX11) (N := 32) rfl rfl mk_X11_laysTerms w_1757 w_1759 w_64 w_1760 ⟨Nat.le_of_ble_eq_true rfl, Nat.le_of_ble_eq_true rfl⟩ rfl (Nat.le_of_ble_eq_true rfl) ⟨Nat.le_of_ble_eq_true rfl, Nat.le_of_ble_eq_true rfl⟩ rfl dX11_laysAll_10) h (fun f4 H locs p5 h => ?_)
  obtain ⟨tf4, ogf4, ngf4⟩ := p5
  have of4 : Fr [60, 67, 69, 76, 60013, 60014, 60015] τ f f4 := Fr.tr o ogf4 (by decide) (by decide)
  refine lv_aload_n hx hb dX11_laysAll_13 rfl (lv_at hl 0 rfl) ?_
  obtain ⟨_, r6⟩ := t_rec tf4 hu0 (by decide) wf_60
  refine k_v (r_V C h hl (As := []) (rest := []) (s_X11_laysPowers l D G b0 τ f4 tf4 u0 hu0) r6 (Cn := RX11) (T := TX11) (N := 32) rfl rfl mk_X11_laysPowers w_1946 w_1948 w_80 w_1949 ⟨Nat.le_of_ble_eq_true rfl, Nat.le_of_ble_eq_true rfl⟩ rfl (Nat.le_of_ble_eq_true rfl) ⟨Nat.le_of_ble_eq_true rfl, Nat.le_of_ble_eq_true rfl⟩ rfl dX11_laysAll_14) h (fun f8 H locs p9 h => ?_)
  obtain ⟨tf8, ogf8⟩ := p9
  have of8 : Fr [60, 67, 69, 76, 60013, 60014, 60015] τ f f8 := Fr.tr of4 ogf8 (by decide) (by decide)
  have k10 := NGs.fr ngf4 ogf8 hu0 (by decide)
  exact u_vret C h hr hQ (⟨tf8, of8, k10⟩) (Nat.le_of_ble_eq_true rfl) (Nat.le_of_ble_eq_true rfl) dX11_laysAll_17
abbrev rm_s_X11_entrya : Room := { frames := 1, cells := 0, slots := 0, locals := 25 }
set_option maxRecDepth 100000 in
set_option maxHeartbeats 4000000 in
theorem s_X11_entrya (l : Launch) (D : va_G) (G : Nat → Nat) (b0 : Nat) (τ : Nat → Nat) (f : hM) (t : TI G 9 τ f) (u0 : Nat) (hu0 : τ u0 = 60) (u1 : Int32) (hu1 : iv u1 0 0) (u2 : Int32) (hu2 : iv u2 0 4) (u3 : Int32) (hu3 : iv u3 0 4) (u4 : Int32) (hu4 : iv u4 0 60) (hr0 : u4.toInt + u2.toInt ≤ 60) : mL l yX11_entry cX11_entry 5 rm_s_X11_entrya D G b0 f [.ref u0, .int u1, .int u2, .int u3, .int u4] (fun r f1 => ivl r (-1000002) 1000002 ∧ TI G 9 τ f1 ∧ Fr [] τ f f1) := by
  refine met2 (own := RX11) (by decide) rfl (Nat.le_of_ble_eq_true rfl) ?_
  intro p e s m args below meth c ls Q hQ C hr hini hl h
  have hl : lv_has ls 5 [(0, .ref u0), (1, .int u1), (2, .int u2), (3, .int u3), (4, .int u4)] := hl
  obtain ⟨hx, hb, hml, hown, hts, hE0, hlk⟩ := id C
  have o := Fr.rf [] τ f
  refine lv_iload_n hx hb dX11_entry_0 rfl (lv_at hl 1 rfl) ?_
  refine lv_if_ne (tgt := 31) hx hb dX11_entry_1 (by decide) (fun c1 => ?_) (fun c1 => ?_)
  · have c2 : u1.toInt ≠ 0 := fun z_ => c1 (Int32.toInt_inj.mp z_)
    exact (iv_cn_ c2 hu1 (iv_k (x := 0) (k := 0) rfl) (by decide)).elim
  · have c3 : u1.toInt = 0 := congrArg Int32.toInt c1
    refine lv_iload hx hb dX11_entry_4 (lv_at hl 4 rfl) ?_
    refine lv_ldcw (v := 1000003) hx hb hown (hts _ w_1761) dX11_entry_6 ?_
    refine lv_irem hx hb dX11_entry_9 (by decide) (i_topm (P := fun q_ => q_ < Int32.toInt 1000003 ∧ q_ ≤ Int32.toInt u4) (iv_remm (iv_w hu4 (by decide) : iv _ 0 60) (iv_k (x := 1000003) (k := 1000003) rfl) (by decide)) (fun z4 ez4 mz4 iz4 => ?_))
    refine lv_i2l hx hb dX11_entry_10 rfl (i_topL iz4 (fun w5 ew5 mw5 iw5 => ?_))
    refine lv_iload_n hx hb dX11_entry_11 rfl (lv_at hl 3 rfl) ?_
    refine k_l (r_S C h hl (As := [.long w5, .int u3]) (rest := []) (s_X11_power l D G b0 τ f t w5 u3 (iv_w hu3 (by decide))) mk_X11_power w_1958 w_1959 w_1960 ⟨Nat.le_of_ble_eq_true rfl, Nat.le_of_ble_eq_true rfl⟩ rfl (Nat.le_of_ble_eq_true rfl) ⟨Nat.le_of_ble_eq_true rfl, Nat.le_of_ble_eq_true rfl⟩ rfl dX11_entry_12) h (fun r6 f7 H locs p8 h => ?_)
    obtain ⟨ir6, tf7, ogf7⟩ := p8
    have egf7 := Fr.nil2 ogf7
    subst egf7
    refine lv_aload_n hx hb dX11_entry_15 rfl (lv_at hl 0 rfl) ?_
    refine t_getr (tq := 69) C h t hu0 (by decide) wf_60 rfl fl_X11_36 dX11_entry_16 (fun q9 tq9 => ?_)
    refine lv_iload hx hb dX11_entry_19 (lv_at hl 4 rfl) ?_
    refine lv_iload_n hx hb dX11_entry_21 rfl (lv_at hl 2 rfl) ?_
    refine i_add hx hb dX11_entry_22 hu4 hu2 (lo := 0) (hi := 64) (by decide) (fun z10 ez10 mz10 iz10 => ?_)
    refine t_iald C h t tq9 (by decide) wf_69 (ix_o (by omega)) dX11_entry_23 (fun z11 iz11 => ?_)
    refine lv_i2l hx hb dX11_entry_24 rfl (i_topL iz11 (fun w12 ew12 mw12 iw12 => ?_))
    refine lv_lmul hx hb dX11_entry_25 (lv_topl (fun w13 ew13 => ?_))
    refine lv_ldc2 (v := 1000003) hx hb hown (hts _ w_1719) dX11_entry_26 ?_
    refine lv_lrem hx hb dX11_entry_29 (by decide) (i_topl (lrem_iv (k := 1000003) rfl (by decide) (lo := -1000002) (hi := 1000002) (by decide)) (fun w14 ew14 iw14 => ?_))
    exact u_lret C h hr hQ (⟨(ivl_w iw14 (by decide)), t, o⟩) (Nat.le_of_ble_eq_true rfl) (Nat.le_of_ble_eq_true rfl) dX11_entry_30
abbrev rm_s_X11_guessesa : Room := { frames := 3, cells := 0, slots := 0, locals := 72 }
set_option maxRecDepth 100000 in
set_option maxHeartbeats 4000000 in
theorem s_X11_guessesa (l : Launch) (D : va_G) (G : Nat → Nat) (b0 : Nat) (τ : Nat → Nat) (f : hM) (t : TI G 9 τ f) (u0 : Nat) (hu0 : τ u0 = 60) (u1 : Int32) (hu1 : iv u1 0 0) (u2 : Int32) (hu2 : iv u2 1 4) (u3 : Int32) (hu3 : iv u3 0 4) : mI l yX11_guesses cX11_guesses 7 (.boolean) rm_s_X11_guessesa D G b0 f [.ref u0, .int u1, .int u2, .int u3] (fun r f1 => iv r 0 1 ∧ TI G 9 τ f1 ∧ Fr [60, 72, 73, 74, 75, 60028, 60029] τ f f1) := by
  refine met2 (own := RX11) (by decide) rfl (Nat.le_of_ble_eq_true rfl) ?_
  intro p e s m args below meth c ls Q hQ C hr hini hl h
  have hl : lv_has ls 7 [(0, .ref u0), (1, .int u1), (2, .int u2), (3, .int u3)] := hl
  obtain ⟨hx, hb, hml, hown, hts, hE0, hlk⟩ := id C
  have o := Fr.rf [60, 72, 73, 74, 75, 60028, 60029] τ f
  have L24 : ∀ (n24 : Nat) (ls : Array Slot) (f_24 : hM) (H : Heap) (locs : List Loc) (v24_4 : Int32), 5 - v24_4.toInt < (n24 : Int) → lv_has ls 7 [(0, .ref u0), (1, .int u1), (2, .int u2), (3, .int u3), (4, .int v24_4)] → hw D b0 s.heap f_24 H locs → TI G 9 τ f_24 → Fr [60, 72, 73, 74, 75, 60028, 60029] τ f f_24 → iv v24_4 0 5 → W p l e rm_s_X11_guessesa s m args below meth c H locs 0 0 Q (F0 m 24 ls []) := by
    intro n24
    induction n24 with
    | zero => intro ls f_24 H locs v24_4 hm24 hl h t_24 o_24 iv24_4; exact absurd hm24 (by omega)
    | succ n24 ih24 =>
      intro ls f_24 H locs v24_4 hm24 hl h t_24 o_24 iv24_4
      have L33 : ∀ (n33 : Nat) (ls : Array Slot) (f_33 : hM) (H : Heap) (locs : List Loc) (v33_5 : Int32), 5 - v33_5.toInt < (n33 : Int) → lv_has ls 7 [(0, .ref u0), (1, .int u1), (2, .int u2), (3, .int u3), (4, .int v24_4), (5, .int v33_5)] → hw D b0 s.heap f_33 H locs → TI G 9 τ f_33 → Fr [60, 72, 73, 74, 75, 60028, 60029] τ f f_33 → iv v24_4 0 4 → iv v33_5 0 5 → W p l e rm_s_X11_guessesa s m args below meth c H locs 0 0 Q (F0 m 33 ls []) := by
        intro n33
        induction n33 with
        | zero => intro ls f_33 H locs v33_5 hm33 hl h t_33 o_33 jv33_4 iv33_5; exact absurd hm33 (by omega)
        | succ n33 ih33 =>
          intro ls f_33 H locs v33_5 hm33 hl h t_33 o_33 jv33_4 iv33_5
          have L42 : ∀ (n42 : Nat) (ls : Array Slot) (f_42 : hM) (H : Heap) (locs : List Loc) (v42_6 : Int32), 32 - v42_6.toInt < (n42 : Int) → lv_has ls 7 [(0, .ref u0), (1, .int u1), (2, .int u2), (3, .int u3), (4, .int v24_4), (5, .int v33_5), (6, .int v42_6)] → hw D b0 s.heap f_42 H locs → TI G 9 τ f_42 → Fr [60, 72, 73, 74, 75, 60028, 60029] τ f f_42 → iv v33_5 0 4 → iv v42_6 0 32 → W p l e rm_s_X11_guessesa s m args below meth c H locs 0 0 Q (F0 m 42 ls []) := by
            intro n42
            induction n42 with
            | zero => intro ls f_42 H locs v42_6 hm42 hl h t_42 o_42 jv42_5 iv42_6; exact absurd hm42 (by omega)
            | succ n42 ih42 =>
              intro ls f_42 H locs v42_6 hm42 hl h t_42 o_42 jv42_5 iv42_6
              refine lv_iload hx hb dX11_guesses_42 (lv_at hl 6 rfl) ?_
              refine lv_aload_n hx hb dX11_guesses_44 rfl (lv_at hl 0 rfl) ?_
              refine t_geti C h t_42 hu0 (by decide) wf_60 rfl fl_X11_367 dX11_guesses_45 (fun z1 iz1 => ?_)
              refine lv_icmp_ge (tgt := 88) hx hb dX11_guesses_48 (by decide) (fun c2 => ?_) (fun c2 => ?_)
              · have c3 : z1.toInt ≤ v42_6.toInt := Int32.le_iff_toInt_le.mp c2
                refine i_inc hx hb dX11_guesses_88 hl (k := 5) rfl jv42_5 rfl (lo := 1) (hi := 5) (by decide) (by decide) (lv' := fun v => [(5, .int v), (0, .ref u0), (1, .int u1), (2, .int u2), (3, .int u3), (4, .int v24_4), (6, .int v42_6)]) (fun _ => rfl) (fun z7 ls ez7 mz7 iz7 hl => ?_)
                refine lv_goto (tgt := 33) hx hb dX11_guesses_91 (by decide) ?_
                exact ih33 ls f_42 H locs z7 (show 5 - z7.toInt < _ by omega) (lv_cons hl 1 rfl (lv_cons hl 2 rfl (lv_cons hl 3 rfl (lv_cons hl 4 rfl (lv_cons hl 5 rfl (lv_cons hl 0 rfl (lv_nil hl))))))) h t_42 o_42 jv33_4 (iv_w iz7 (by decide))
              · have c4 : v42_6.toInt < z1.toInt := Int32.lt_iff_toInt_lt.mp (iv_nle c2)
                have i5 : iv v42_6 0 31 := iv_Ll c4 iv42_6 iz1 (by decide)
                have i6 : iv z1 1 32 := iv_Lr c4 iv42_6 iz1 (by decide)
                refine lv_aload_n hx hb dX11_guesses_51 rfl (lv_at hl 0 rfl) ?_
                refine t_getr (tq := 72) C h t_42 hu0 (by decide) wf_60 rfl fl_X11_54 dX11_guesses_52 (fun q8 tq8 => ?_)
                refine lv_bipush (v := 61) hx hb dX11_guesses_55 (by decide) ?_
                refine lv_iload_n hx hb dX11_guesses_57 rfl (lv_at hl 3 rfl) ?_
                refine lv_iconst (v := 1) hx hb dX11_guesses_58 (by decide) ?_
                refine i_addk hx hb dX11_guesses_59 hu3 (k := 1) rfl (lo := 1) (hi := 5) (by decide) (fun z9 ez9 mz9 iz9 => ?_)
                refine lv_iload hx hb dX11_guesses_60 (lv_at hl 4 rfl) ?_
                refine i_mulp hx hb dX11_guesses_62 iz9 jv33_4 (lo := 0) (hi := 20) (by decide) (fun z10 ez10 iz10 => ?_)
                refine lv_iload hx hb dX11_guesses_63 (lv_at hl 5 rfl) ?_
                refine i_add hx hb dX11_guesses_65 iz10 jv42_5 (lo := 0) (hi := 24) (by decide) (fun z11 ez11 mz11 iz11 => ?_)
                refine i_cmul hx hb dX11_guesses_66 (k := 61) rfl iz11 (lo := 0) (hi := 1464) (by decide) (fun z12 ez12 mz12 iz12 => ?_)
                refine lv_iload hx hb dX11_guesses_67 (lv_at hl 6 rfl) ?_
                refine i_add hx hb dX11_guesses_69 iz12 i5 (lo := 0) (hi := 1495) (by decide) (fun z13 ez13 mz13 iz13 => ?_)
                refine lv_aload_n hx hb dX11_guesses_70 rfl (lv_at hl 0 rfl) ?_
                refine lv_iload_n hx hb dX11_guesses_71 rfl (lv_at hl 1 rfl) ?_
                refine lv_iload hx hb dX11_guesses_72 (lv_at hl 4 rfl) ?_
                refine lv_iload hx hb dX11_guesses_74 (lv_at hl 5 rfl) ?_
                refine lv_iload hx hb dX11_guesses_76 (lv_at hl 6 rfl) ?_
                obtain ⟨_, r14⟩ := t_rec t_42 hu0 (by decide) wf_60
                refine k_l (r_V C h hl (As := [.int u1, .int v24_4, .int v33_5, .int v42_6]) (rest := [.int z13, .ref q8]) (s_X11_entrya l D G b0 τ f_42 t_42 u0 hu0 u1 hu1 v24_4 jv33_4 v33_5 jv42_5 v42_6 (iv_w i5 (by decide)) (by omega)) r14 (Cn := RX11) (T := TX11) (N := 32) rfl rfl mk_X11_entry w_1954 w_1956 w_82 w_1957 ⟨Nat.le_of_ble_eq_true rfl, Nat.le_of_ble_eq_true rfl⟩ rfl (Nat.le_of_ble_eq_true rfl) ⟨Nat.le_of_ble_eq_true rfl, Nat.le_of_ble_eq_true rfl⟩ rfl dX11_guesses_78) h (fun r15 f16 H locs p17 h => ?_)
                obtain ⟨ir15, tf16, ogf16⟩ := p17
                have egf16 := Fr.nil2 ogf16
                subst egf16
                refine t_last C h t_42 o_42 tq8 (by decide) (by decide) wf_72 fw_72 (iv_in iz13 (by decide)) dX11_guesses_81 (fun f18 H locs h tf18 of18 hq => ?_)
                refine i_inc hx hb dX11_guesses_82 hl (k := 6) rfl i5 rfl (lo := 1) (hi := 32) (by decide) (by decide) (lv' := fun v => [(6, .int v), (0, .ref u0), (1, .int u1), (2, .int u2), (3, .int u3), (4, .int v24_4), (5, .int v33_5)]) (fun _ => rfl) (fun z19 ls ez19 mz19 iz19 hl => ?_)
                refine lv_goto (tgt := 42) hx hb dX11_guesses_85 (by decide) ?_
                exact ih42 ls f18 H locs z19 (show 32 - z19.toInt < _ by omega) (lv_cons hl 1 rfl (lv_cons hl 2 rfl (lv_cons hl 3 rfl (lv_cons hl 4 rfl (lv_cons hl 5 rfl (lv_cons hl 6 rfl (lv_cons hl 0 rfl (lv_nil hl)))))))) h tf18 of18 jv42_5 (iv_w iz19 (by decide))
          refine lv_iload hx hb dX11_guesses_33 (lv_at hl 5 rfl) ?_
          refine lv_iload_n hx hb dX11_guesses_35 rfl (lv_at hl 3 rfl) ?_
          refine lv_icmp_gt (tgt := 94) hx hb dX11_guesses_36 (by decide) (fun c20 => ?_) (fun c20 => ?_)
          · have c21 : u3.toInt < v33_5.toInt := Int32.lt_iff_toInt_lt.mp c20
            have i22 : iv v33_5 1 5 := iv_Lr c21 hu3 iv33_5 (by decide)
            refine i_inc hx hb dX11_guesses_94 hl (k := 4) rfl jv33_4 rfl (lo := 1) (hi := 5) (by decide) (by decide) (lv' := fun v => [(4, .int v), (0, .ref u0), (1, .int u1), (2, .int u2), (3, .int u3), (5, .int v33_5)]) (fun _ => rfl) (fun z25 ls ez25 mz25 iz25 hl => ?_)
            refine lv_goto (tgt := 24) hx hb dX11_guesses_97 (by decide) ?_
            exact ih24 ls f_33 H locs z25 (show 5 - z25.toInt < _ by omega) (lv_cons hl 1 rfl (lv_cons hl 2 rfl (lv_cons hl 3 rfl (lv_cons hl 4 rfl (lv_cons hl 0 rfl (lv_nil hl)))))) h t_33 o_33 (iv_w iz25 (by decide))
          · have c23 : v33_5.toInt ≤ u3.toInt := Int32.le_iff_toInt_le.mp (iv_nlt c20)
            have i24 : iv v33_5 0 4 := iv_El c23 iv33_5 hu3 (by decide)
            refine lv_iconst (v := 0) hx hb dX11_guesses_39 (by decide) ?_
            refine lv_istore (lv' := [(6, .int 0), (0, .ref u0), (1, .int u1), (2, .int u2), (3, .int u3), (4, .int v24_4), (5, .int v33_5)]) hx hb dX11_guesses_40 hl (by decide) rfl (fun ls hl => ?_)
            exact L42 33 ls f_33 H locs 0 (by decide) (lv_cons hl 1 rfl (lv_cons hl 2 rfl (lv_cons hl 3 rfl (lv_cons hl 4 rfl (lv_cons hl 5 rfl (lv_cons hl 6 rfl (lv_cons hl 0 rfl (lv_nil hl)))))))) h t_33 o_33 i24 ⟨by decide, by decide⟩
      refine lv_iload hx hb dX11_guesses_24 (lv_at hl 4 rfl) ?_
      refine lv_iload_n hx hb dX11_guesses_26 rfl (lv_at hl 2 rfl) ?_
      refine lv_icmp_gt (tgt := 100) hx hb dX11_guesses_27 (by decide) (fun c26 => ?_) (fun c26 => ?_)
      · have c27 : u2.toInt < v24_4.toInt := Int32.lt_iff_toInt_lt.mp c26
        have i28 : iv v24_4 2 5 := iv_Lr c27 hu2 iv24_4 (by decide)
        refine lv_aload_n hx hb dX11_guesses_100 rfl (lv_at hl 0 rfl) ?_
        obtain ⟨_, r31⟩ := t_rec t_24 hu0 (by decide) wf_60
        refine k_i (r_V C h hl (As := []) (rest := []) (s_X11_hangs l D G b0 τ f_24 t_24 u0 hu0) r31 (Cn := RX11) (T := TX11) (N := 32) rfl rfl mk_X11_hangs w_1961 w_1963 w_83 w_1964 ⟨Nat.le_of_ble_eq_true rfl, Nat.le_of_ble_eq_true rfl⟩ rfl (Nat.le_of_ble_eq_true rfl) ⟨Nat.le_of_ble_eq_true rfl, Nat.le_of_ble_eq_true rfl⟩ rfl dX11_guesses_101) h (fun r32 f33 H locs p34 h => ?_)
        obtain ⟨ir32, tf33, ogf33⟩ := p34
        have of33 : Fr [60, 72, 73, 74, 75, 60028, 60029] τ f f33 := Fr.tr o_24 ogf33 (by decide) (by decide)
        exact u_zret C h hr hQ ir32 (⟨ir32, tf33, of33⟩) (Nat.le_of_ble_eq_true rfl) (Nat.le_of_ble_eq_true rfl) dX11_guesses_104
      · have c29 : v24_4.toInt ≤ u2.toInt := Int32.le_iff_toInt_le.mp (iv_nlt c26)
        have i30 : iv v24_4 0 4 := iv_El c29 iv24_4 hu2 (by decide)
        refine lv_iconst (v := 0) hx hb dX11_guesses_30 (by decide) ?_
        refine lv_istore (lv' := [(5, .int 0), (0, .ref u0), (1, .int u1), (2, .int u2), (3, .int u3), (4, .int v24_4)]) hx hb dX11_guesses_31 hl (by decide) rfl (fun ls hl => ?_)
        exact L33 6 ls f_24 H locs 0 (by decide) (lv_cons hl 1 rfl (lv_cons hl 2 rfl (lv_cons hl 3 rfl (lv_cons hl 4 rfl (lv_cons hl 5 rfl (lv_cons hl 0 rfl (lv_nil hl))))))) h t_24 o_24 i30 ⟨by decide, by decide⟩
  refine lv_aload_n hx hb dX11_guesses_0 rfl (lv_at hl 0 rfl) ?_
  refine lv_iload_n hx hb dX11_guesses_1 rfl (lv_at hl 2 rfl) ?_
  refine lv_iconst (v := 1) hx hb dX11_guesses_2 (by decide) ?_
  refine i_addk hx hb dX11_guesses_3 hu2 (k := 1) rfl (lo := 2) (hi := 5) (by decide) (fun z35 ez35 mz35 iz35 => ?_)
  refine lv_iload_n hx hb dX11_guesses_4 rfl (lv_at hl 3 rfl) ?_
  refine lv_iconst (v := 1) hx hb dX11_guesses_5 (by decide) ?_
  refine i_addk hx hb dX11_guesses_6 hu3 (k := 1) rfl (lo := 1) (hi := 5) (by decide) (fun z36 ez36 mz36 iz36 => ?_)
  refine i_mulp hx hb dX11_guesses_7 iz35 iz36 (lo := 2) (hi := 25) (by decide) (fun z37 ez37 iz37 => ?_)
  refine t_put C h t o hu0 (by decide) (by decide) (by decide) wf_60 fw_60 (k := 27) rfl flw_X11_370 (Or.inr ⟨_, _, _, rfl, rfl⟩) (v := .int z37) rfl rfl ⟨_, rfl, (iv_w iz37 (by decide))⟩ dX11_guesses_8 (fun f38 H locs h tf38 of38 hq ha_ hn_ hk_ => ?_)
  have k39 := ha_
  refine lv_aload_n hx hb dX11_guesses_11 rfl (lv_at hl 0 rfl) ?_
  refine lv_aload_n hx hb dX11_guesses_12 rfl (lv_at hl 0 rfl) ?_
  refine t_geti C h tf38 hu0 (by decide) wf_60 rfl fl_X11_370 dX11_guesses_13 (fun z40 iz40 => ?_)
  refine lv_iconst (v := 4) hx hb dX11_guesses_16 (by decide) ?_
  refine i_addk hx hb dX11_guesses_17 iz40 (k := 4) rfl (lo := 4) (hi := 32) (by decide) (fun z41 ez41 mz41 iz41 => ?_)
  refine t_put C h tf38 of38 hu0 (by decide) (by decide) (by decide) wf_60 fw_60 (k := 28) rfl flw_X11_367 (Or.inr ⟨_, _, _, rfl, rfl⟩) (v := .int z41) rfl rfl ⟨_, rfl, (iv_w iz41 (by decide))⟩ dX11_guesses_18 (fun f42 H locs h tf42 of42 hq ha_ hn_ hk_ => ?_)
  have k43 := ha_
  refine lv_iconst (v := 0) hx hb dX11_guesses_21 (by decide) ?_
  refine lv_istore (lv' := [(4, .int 0), (0, .ref u0), (1, .int u1), (2, .int u2), (3, .int u3)]) hx hb dX11_guesses_22 hl (by decide) rfl (fun ls hl => ?_)
  exact L24 6 ls f42 H locs 0 (by decide) (lv_cons hl 1 rfl (lv_cons hl 2 rfl (lv_cons hl 3 rfl (lv_cons hl 4 rfl (lv_cons hl 0 rfl (lv_nil hl)))))) h tf42 of42 ⟨by decide, by decide⟩
abbrev rm_s_X11_failsAta : Room := { frames := 2, cells := 0, slots := 0, locals := 49 }
set_option maxRecDepth 100000 in
set_option maxHeartbeats 4000000 in
theorem s_X11_failsAta (l : Launch) (D : va_G) (G : Nat → Nat) (b0 : Nat) (τ : Nat → Nat) (f : hM) (t : TI G 9 τ f) (u0 : Nat) (hu0 : τ u0 = 60) (u1 : Int32) (hu1 : iv u1 0 0) (u2 : Int32) (hu2 : iv u2 1 4) (u3 : Int32) (hu3 : iv u3 0 4) : mI l yX11_failsAt cX11_failsAt 9 (.int) rm_s_X11_failsAta D G b0 f [.ref u0, .int u1, .int u2, .int u3] (fun r f1 => iv r (-1) 59 ∧ TI G 9 τ f1 ∧ Fr [] τ f f1) := by
  refine met2 (own := RX11) (by decide) rfl (Nat.le_of_ble_eq_true rfl) ?_
  intro p e s m args below meth c ls Q hQ C hr hini hl h
  have hl : lv_has ls 9 [(0, .ref u0), (1, .int u1), (2, .int u2), (3, .int u3)] := hl
  obtain ⟨hx, hb, hml, hown, hts, hE0, hlk⟩ := id C
  have o := Fr.rf [] τ f
  have L3 : ∀ (n3 : Nat) (ls : Array Slot) (f_3 : hM) (H : Heap) (locs : List Loc) (v3_4 : Int32), 60 - v3_4.toInt < (n3 : Int) → lv_has ls 9 [(0, .ref u0), (1, .int u1), (2, .int u2), (3, .int u3), (4, .int v3_4)] → hw D b0 s.heap f_3 H locs → TI G 9 τ f_3 → Fr [] τ f f_3 → iv v3_4 0 60 → W p l e rm_s_X11_failsAta s m args below meth c H locs 0 0 Q (F0 m 3 ls []) := by
    intro n3
    induction n3 with
    | zero => intro ls f_3 H locs v3_4 hm3 hl h t_3 o_3 iv3_4; exact absurd hm3 (by omega)
    | succ n3 ih3 =>
      intro ls f_3 H locs v3_4 hm3 hl h t_3 o_3 iv3_4
      have L27 : ∀ (n27 : Nat) (ls : Array Slot) (f_27 : hM) (H : Heap) (locs : List Loc) (v27_5 : Int64) (v27_7 : Int32), 5 - v27_7.toInt < (n27 : Int) → lv_has ls 9 [(0, .ref u0), (1, .int u1), (2, .int u2), (3, .int u3), (4, .int v3_4), (5, .long v27_5), (7, .int v27_7)] → hw D b0 s.heap f_27 H locs → TI G 9 τ f_27 → Fr [] τ f f_27 → iv v3_4 0 59 → iv v27_7 0 5 → v3_4.toInt + u2.toInt ≤ 60 → W p l e rm_s_X11_failsAta s m args below meth c H locs 0 0 Q (F0 m 27 ls []) := by
        intro n27
        induction n27 with
        | zero => intro ls f_27 H locs v27_5 v27_7 hm27 hl h t_27 o_27 jv27_4 iv27_7 hv27_0; exact absurd hm27 (by omega)
        | succ n27 ih27 =>
          intro ls f_27 H locs v27_5 v27_7 hm27 hl h t_27 o_27 jv27_4 iv27_7 hv27_0
          have L36 : ∀ (n36 : Nat) (ls : Array Slot) (f_36 : hM) (H : Heap) (locs : List Loc) (v36_5 : Int64) (v36_8 : Int32), 5 - v36_8.toInt < (n36 : Int) → lv_has ls 9 [(0, .ref u0), (1, .int u1), (2, .int u2), (3, .int u3), (4, .int v3_4), (5, .long v36_5), (7, .int v27_7), (8, .int v36_8)] → hw D b0 s.heap f_36 H locs → TI G 9 τ f_36 → Fr [] τ f f_36 → iv v27_7 0 4 → iv v36_8 0 5 → v27_7.toInt ≤ u2.toInt → W p l e rm_s_X11_failsAta s m args below meth c H locs 0 0 Q (F0 m 36 ls []) := by
            intro n36
            induction n36 with
            | zero => intro ls f_36 H locs v36_5 v36_8 hm36 hl h t_36 o_36 jv36_7 iv36_8 hv36_0; exact absurd hm36 (by omega)
            | succ n36 ih36 =>
              intro ls f_36 H locs v36_5 v36_8 hm36 hl h t_36 o_36 jv36_7 iv36_8 hv36_0
              refine lv_iload hx hb dX11_failsAt_36 (lv_at hl 7 rfl) ?_
              refine lv_iload_n hx hb dX11_failsAt_38 rfl (lv_at hl 3 rfl) ?_
              refine lv_icmp_gt (tgt := 83) hx hb dX11_failsAt_39 (by decide) (fun c1 => ?_) (fun c1 => ?_)
              · have c2 : u3.toInt < v36_8.toInt := Int32.lt_iff_toInt_lt.mp c1
                have i3 : iv v36_8 1 5 := iv_Lr c2 hu3 iv36_8 (by decide)
                refine i_inc hx hb dX11_failsAt_83 hl (k := 6) rfl jv36_7 rfl (lo := 1) (hi := 5) (by decide) (by decide) (lv' := fun v => [(7, .int v), (0, .ref u0), (1, .int u1), (2, .int u2), (3, .int u3), (4, .int v3_4), (5, .long v36_5), (8, .int v36_8)]) (fun _ => rfl) (fun z6 ls ez6 mz6 iz6 hl => ?_)
                refine lv_goto (tgt := 27) hx hb dX11_failsAt_86 (by decide) ?_
                exact ih27 ls f_36 H locs v36_5 z6 (show 5 - z6.toInt < _ by omega) (lv_cons hl 1 rfl (lv_cons hl 2 rfl (lv_cons hl 3 rfl (lv_cons hl 4 rfl (lv_cons hl 5 rfl (lv_cons hl 6 rfl (lv_cons hl 0 rfl (lv_nil hl)))))))) h t_36 o_36 jv27_4 (iv_w iz6 (by decide)) (show v3_4.toInt + u2.toInt ≤ 60 by omega)
              · have c4 : v36_8.toInt ≤ u3.toInt := Int32.le_iff_toInt_le.mp (iv_nlt c1)
                have i5 : iv v36_8 0 4 := iv_El c4 iv36_8 hu3 (by decide)
                refine lv_lload hx hb dX11_failsAt_42 (lv_at hl 5 rfl) ?_
                refine lv_aload_n hx hb dX11_failsAt_44 rfl (lv_at hl 0 rfl) ?_
                refine t_getr (tq := 74) C h t_36 hu0 (by decide) wf_60 rfl fl_X11_63 dX11_failsAt_45 (fun q7 tq7 => ?_)
                refine lv_iload_n hx hb dX11_failsAt_48 rfl (lv_at hl 3 rfl) ?_
                refine lv_iconst (v := 1) hx hb dX11_failsAt_49 (by decide) ?_
                refine i_addk hx hb dX11_failsAt_50 hu3 (k := 1) rfl (lo := 1) (hi := 5) (by decide) (fun z8 ez8 mz8 iz8 => ?_)
                refine lv_iload hx hb dX11_failsAt_51 (lv_at hl 6 rfl) ?_
                refine i_mulp hx hb dX11_failsAt_53 iz8 jv36_7 (lo := 0) (hi := 20) (by decide) (fun z9 ez9 iz9 => ?_)
                refine lv_iload hx hb dX11_failsAt_54 (lv_at hl 7 rfl) ?_
                refine i_add hx hb dX11_failsAt_56 iz9 i5 (lo := 0) (hi := 24) (by decide) (fun z10 ez10 mz10 iz10 => ?_)
                refine t_lald C h t_36 tq7 (by decide) wf_74 (iv_in iz10 (by decide)) dX11_failsAt_57 (fun w11 => ?_)
                refine lv_aload_n hx hb dX11_failsAt_58 rfl (lv_at hl 0 rfl) ?_
                refine lv_iload_n hx hb dX11_failsAt_59 rfl (lv_at hl 1 rfl) ?_
                refine lv_iload hx hb dX11_failsAt_60 (lv_at hl 6 rfl) ?_
                refine lv_iload hx hb dX11_failsAt_62 (lv_at hl 7 rfl) ?_
                refine lv_iload hx hb dX11_failsAt_64 (lv_at hl 4 rfl) ?_
                obtain ⟨_, r12⟩ := t_rec t_36 hu0 (by decide) wf_60
                refine k_l (r_V C h hl (As := [.int u1, .int v27_7, .int v36_8, .int v3_4]) (rest := [.long w11, .long v36_5]) (s_X11_entrya l D G b0 τ f_36 t_36 u0 hu0 u1 hu1 v27_7 jv36_7 v36_8 i5 v3_4 (iv_w jv27_4 (by decide)) (by omega)) r12 (Cn := RX11) (T := TX11) (N := 32) rfl rfl mk_X11_entry w_1954 w_1956 w_82 w_1957 ⟨Nat.le_of_ble_eq_true rfl, Nat.le_of_ble_eq_true rfl⟩ rfl (Nat.le_of_ble_eq_true rfl) ⟨Nat.le_of_ble_eq_true rfl, Nat.le_of_ble_eq_true rfl⟩ rfl dX11_failsAt_66) h (fun r13 f14 H locs p15 h => ?_)
                obtain ⟨ir13, tf14, ogf14⟩ := p15
                have egf14 := Fr.nil2 ogf14
                subst egf14
                refine lv_lmul hx hb dX11_failsAt_69 (lv_topl (fun w16 ew16 => ?_))
                refine lv_ldc2 (v := 1000003) hx hb hown (hts _ w_1719) dX11_failsAt_70 ?_
                refine lv_lrem hx hb dX11_failsAt_73 (by decide) (i_topl (lrem_iv (k := 1000003) rfl (by decide) (lo := -1000002) (hi := 1000002) (by decide)) (fun w17 ew17 iw17 => ?_))
                refine lv_ladd hx hb dX11_failsAt_74 (lv_topl (fun w18 ew18 => ?_))
                refine lv_lstore (lv' := [(5, .long w18), (0, .ref u0), (1, .int u1), (2, .int u2), (3, .int u3), (4, .int v3_4), (7, .int v27_7), (8, .int v36_8)]) hx hb dX11_failsAt_75 hl (by decide) rfl (fun ls hl => ?_)
                refine i_inc hx hb dX11_failsAt_77 hl (k := 7) rfl i5 rfl (lo := 1) (hi := 5) (by decide) (by decide) (lv' := fun v => [(8, .int v), (5, .long w18), (0, .ref u0), (1, .int u1), (2, .int u2), (3, .int u3), (4, .int v3_4), (7, .int v27_7)]) (fun _ => rfl) (fun z19 ls ez19 mz19 iz19 hl => ?_)
                refine lv_goto (tgt := 36) hx hb dX11_failsAt_80 (by decide) ?_
                exact ih36 ls f_36 H locs w18 z19 (show 5 - z19.toInt < _ by omega) (lv_cons hl 2 rfl (lv_cons hl 3 rfl (lv_cons hl 4 rfl (lv_cons hl 5 rfl (lv_cons hl 6 rfl (lv_cons hl 1 rfl (lv_cons hl 7 rfl (lv_cons hl 0 rfl (lv_nil hl))))))))) h t_36 o_36 jv36_7 (iv_w iz19 (by decide)) (show v27_7.toInt ≤ u2.toInt by omega)
          refine lv_iload hx hb dX11_failsAt_27 (lv_at hl 6 rfl) ?_
          refine lv_iload_n hx hb dX11_failsAt_29 rfl (lv_at hl 2 rfl) ?_
          refine lv_icmp_gt (tgt := 89) hx hb dX11_failsAt_30 (by decide) (fun c20 => ?_) (fun c20 => ?_)
          · have c21 : u2.toInt < v27_7.toInt := Int32.lt_iff_toInt_lt.mp c20
            have i22 : iv v27_7 2 5 := iv_Lr c21 hu2 iv27_7 (by decide)
            refine lv_lload hx hb dX11_failsAt_89 (lv_at hl 5 rfl) ?_
            refine lv_ldc2 (v := 1000003) hx hb hown (hts _ w_1719) dX11_failsAt_91 ?_
            refine lv_lrem hx hb dX11_failsAt_94 (by decide) (i_topl (lrem_iv (k := 1000003) rfl (by decide) (lo := -1000002) (hi := 1000002) (by decide)) (fun w25 ew25 iw25 => ?_))
            refine lv_lconst (v := 0) hx hb dX11_failsAt_95 (by decide) ?_
            refine W.lcmp hx hb dX11_failsAt_96 (i_topc (fun z26 ez26 mz26 iz26 => ?_))
            refine lv_if_eq (tgt := 103) hx hb dX11_failsAt_97 (by decide) (fun c27 => ?_) (fun c27 => ?_)
            · have c28 : z26.toInt = 0 := congrArg Int32.toInt c27
              have i29 : iv z26 0 0 := iv_Q c28 iz26 (iv_k (x := 0) (k := 0) rfl) (by decide)
              refine i_inc hx hb dX11_failsAt_103 hl (k := 4) rfl jv27_4 rfl (lo := 1) (hi := 60) (by decide) (by decide) (lv' := fun v => [(4, .int v), (0, .ref u0), (1, .int u1), (2, .int u2), (3, .int u3), (5, .long v27_5), (7, .int v27_7)]) (fun _ => rfl) (fun z31 ls ez31 mz31 iz31 hl => ?_)
              refine lv_goto (tgt := 3) hx hb dX11_failsAt_106 (by decide) ?_
              exact ih3 ls f_27 H locs z31 (show 60 - z31.toInt < _ by omega) (lv_cons hl 1 rfl (lv_cons hl 2 rfl (lv_cons hl 3 rfl (lv_cons hl 4 rfl (lv_cons hl 0 rfl (lv_nil hl)))))) h t_27 o_27 (iv_w iz31 (by decide))
            · have c30 : z26.toInt ≠ 0 := fun z_ => c27 (Int32.toInt_inj.mp z_)
              refine lv_iload hx hb dX11_failsAt_100 (lv_at hl 4 rfl) ?_
              exact u_iret C h hr hQ (⟨(iv_w jv27_4 (by decide)), t_27, o_27⟩) (Nat.le_of_ble_eq_true rfl) (Nat.le_of_ble_eq_true rfl) dX11_failsAt_102
          · have c23 : v27_7.toInt ≤ u2.toInt := Int32.le_iff_toInt_le.mp (iv_nlt c20)
            have i24 : iv v27_7 0 4 := iv_El c23 iv27_7 hu2 (by decide)
            refine lv_iconst (v := 0) hx hb dX11_failsAt_33 (by decide) ?_
            refine lv_istore (lv' := [(8, .int 0), (0, .ref u0), (1, .int u1), (2, .int u2), (3, .int u3), (4, .int v3_4), (5, .long v27_5), (7, .int v27_7)]) hx hb dX11_failsAt_34 hl (by decide) rfl (fun ls hl => ?_)
            exact L36 6 ls f_27 H locs v27_5 0 (by decide) (lv_cons hl 1 rfl (lv_cons hl 2 rfl (lv_cons hl 3 rfl (lv_cons hl 4 rfl (lv_cons hl 5 rfl (lv_cons hl 6 rfl (lv_cons hl 7 rfl (lv_cons hl 0 rfl (lv_nil hl))))))))) h t_27 o_27 i24 ⟨by decide, by decide⟩ (show v27_7.toInt ≤ u2.toInt by omega)
      refine lv_iload hx hb dX11_failsAt_3 (lv_at hl 4 rfl) ?_
      refine lv_iload_n hx hb dX11_failsAt_5 rfl (lv_at hl 1 rfl) ?_
      refine lv_if_ne (tgt := 16) hx hb dX11_failsAt_6 (by decide) (fun c32 => ?_) (fun c32 => ?_)
      · have c33 : u1.toInt ≠ 0 := fun z_ => c32 (Int32.toInt_inj.mp z_)
        exact (iv_cn_ c33 hu1 (iv_k (x := 0) (k := 0) rfl) (by decide)).elim
      · have c34 : u1.toInt = 0 := congrArg Int32.toInt c32
        refine lv_bipush (v := 60) hx hb dX11_failsAt_9 (by decide) ?_
        refine lv_iload_n hx hb dX11_failsAt_11 rfl (lv_at hl 2 rfl) ?_
        refine i_ksub hx hb dX11_failsAt_12 (k := 60) rfl hu2 (lo := 56) (hi := 59) (by decide) (fun z35 ez35 mz35 iz35 => ?_)
        refine lv_goto (tgt := 18) hx hb dX11_failsAt_13 (by decide) ?_
        refine lv_icmp_gt (tgt := 109) hx hb dX11_failsAt_18 (by decide) (fun c36 => ?_) (fun c36 => ?_)
        · have c37 : z35.toInt < v3_4.toInt := Int32.lt_iff_toInt_lt.mp c36
          have i38 : iv v3_4 57 60 := iv_Lr c37 iz35 iv3_4 (by decide)
          refine lv_iconst (v := -1) hx hb dX11_failsAt_109 (by decide) ?_
          exact u_iret C h hr hQ (⟨⟨by decide, by decide⟩, t_3, o_3⟩) (Nat.le_of_ble_eq_true rfl) (Nat.le_of_ble_eq_true rfl) dX11_failsAt_110
        · have c39 : v3_4.toInt ≤ z35.toInt := Int32.le_iff_toInt_le.mp (iv_nlt c36)
          have i40 : iv v3_4 0 59 := iv_El c39 iv3_4 iz35 (by decide)
          refine lv_lconst (v := 0) hx hb dX11_failsAt_21 (by decide) ?_
          refine lv_lstore (lv' := [(5, .long 0), (0, .ref u0), (1, .int u1), (2, .int u2), (3, .int u3), (4, .int v3_4)]) hx hb dX11_failsAt_22 hl (by decide) rfl (fun ls hl => ?_)
          refine lv_iconst (v := 0) hx hb dX11_failsAt_24 (by decide) ?_
          refine lv_istore (lv' := [(7, .int 0), (5, .long 0), (0, .ref u0), (1, .int u1), (2, .int u2), (3, .int u3), (4, .int v3_4)]) hx hb dX11_failsAt_25 hl (by decide) rfl (fun ls hl => ?_)
          exact L27 6 ls f_3 H locs 0 0 (by decide) (lv_cons hl 2 rfl (lv_cons hl 3 rfl (lv_cons hl 4 rfl (lv_cons hl 5 rfl (lv_cons hl 6 rfl (lv_cons hl 1 rfl (lv_cons hl 0 rfl (lv_nil hl)))))))) h t_3 o_3 i40 ⟨by decide, by decide⟩ (show v3_4.toInt + u2.toInt ≤ 60 by omega)
  refine lv_iconst (v := 0) hx hb dX11_failsAt_0 (by decide) ?_
  refine lv_istore (lv' := [(4, .int 0), (0, .ref u0), (1, .int u1), (2, .int u2), (3, .int u3)]) hx hb dX11_failsAt_1 hl (by decide) rfl (fun ls hl => ?_)
  exact L3 61 ls f s.heap [] 0 (by decide) (lv_cons hl 1 rfl (lv_cons hl 2 rfl (lv_cons hl 3 rfl (lv_cons hl 4 rfl (lv_cons hl 0 rfl (lv_nil hl)))))) h t o ⟨by decide, by decide⟩
abbrev rm_s_X11_isGuessa : Room := { frames := 2, cells := 0, slots := 0, locals := 46 }
set_option maxRecDepth 100000 in
set_option maxHeartbeats 4000000 in
theorem s_X11_isGuessa (l : Launch) (D : va_G) (G : Nat → Nat) (b0 : Nat) (τ : Nat → Nat) (f : hM) (t : TI G 9 τ f) (u0 : Nat) (hu0 : τ u0 = 60) (u1 : Int32) (hu1 : iv u1 (-2147483648) 2147483647) (u2 : Int32) (hu2 : iv u2 (-2147483648) 2147483647) (u3 : Int32) (hu3 : iv u3 0 0) (u4 : Int32) (hu4 : iv u4 (-2147483648) 2147483647) (u5 : Int32) (hu5 : iv u5 (-2147483648) 2147483647) : mI l yX11_isGuess cX11_isGuess 6 (.boolean) rm_s_X11_isGuessa D G b0 f [.ref u0, .int u1, .int u2, .int u3, .int u4, .int u5] (fun r f1 => iv r 0 1 ∧ TI G 9 τ f1 ∧ Fr [] τ f f1 ∧ (r.toInt ≠ 0 → iv u1 0 7 ∧ iv u2 0 4 ∧ iv u4 1 4 ∧ iv u5 0 4)) := by
  refine met2 (own := RX11) (by decide) rfl (Nat.le_of_ble_eq_true rfl) ?_
  intro p e s m args below meth c ls Q hQ C hr hini hl h
  have hl : lv_has ls 6 [(0, .ref u0), (1, .int u1), (2, .int u2), (3, .int u3), (4, .int u4), (5, .int u5)] := hl
  obtain ⟨hx, hb, hml, hown, hts, hE0, hlk⟩ := id C
  have o := Fr.rf [] τ f
  refine lv_aload_n hx hb dX11_isGuess_0 rfl (lv_at hl 0 rfl) ?_
  refine lv_iload_n hx hb dX11_isGuess_1 rfl (lv_at hl 1 rfl) ?_
  obtain ⟨_, r1⟩ := t_rec t hu0 (by decide) wf_60
  refine k_i (r_V C h hl (As := [.int u1]) (rest := []) (s_X11_isSet l D G b0 τ f t u0 hu0 u1 hu1) r1 (Cn := RX11) (T := TX11) (N := 32) rfl rfl mk_X11_isSet w_1620 w_1622 w_51 w_1623 ⟨Nat.le_of_ble_eq_true rfl, Nat.le_of_ble_eq_true rfl⟩ rfl (Nat.le_of_ble_eq_true rfl) ⟨Nat.le_of_ble_eq_true rfl, Nat.le_of_ble_eq_true rfl⟩ rfl dX11_isGuess_2) h (fun r2 f3 H locs p4 h => ?_)
  obtain ⟨ir2, tf3, ogf3, cnr2⟩ := p4
  have egf3 := Fr.nil2 ogf3
  subst egf3
  refine lv_if_eq (tgt := 70) hx hb dX11_isGuess_5 (by decide) (fun c5 => ?_) (fun c5 => ?_)
  · have c6 : r2.toInt = 0 := congrArg Int32.toInt c5
    have i7 : iv r2 0 0 := iv_Q c6 ir2 (iv_k (x := 0) (k := 0) rfl) (by decide)
    refine lv_iconst (v := 0) hx hb dX11_isGuess_70 (by decide) ?_
    exact u_zret C h hr hQ ⟨by decide, by decide⟩ (⟨⟨by decide, by decide⟩, t, o, (fun h_ => absurd h_ (by decide))⟩) (Nat.le_of_ble_eq_true rfl) (Nat.le_of_ble_eq_true rfl) dX11_isGuess_71
  · have c8 : r2.toInt ≠ 0 := fun z_ => c5 (Int32.toInt_inj.mp z_)
    have i9 : iv r2 1 1 := iv_Nl c8 ir2 (by decide)
    have i10 := cnr2 c8
    refine lv_iload_n hx hb dX11_isGuess_8 rfl (lv_at hl 2 rfl) ?_
    refine lv_i2l hx hb dX11_isGuess_9 rfl (i_topL hu2 (fun w11 ew11 mw11 iw11 => ?_))
    refine lv_lconst (v := 0) hx hb dX11_isGuess_10 (by decide) ?_
    refine lv_ldc2 (v := 4) hx hb hown (hts _ w_1730) dX11_isGuess_11 ?_
    refine k_i (r_S C h hl (As := [.long w11, .long 0, .long 4]) (rest := []) (s_X11_isIn l D G b0 τ f t w11 0 4) mk_X11_isIn w_1624 w_1625 w_1626 ⟨Nat.le_of_ble_eq_true rfl, Nat.le_of_ble_eq_true rfl⟩ rfl (Nat.le_of_ble_eq_true rfl) ⟨Nat.le_of_ble_eq_true rfl, Nat.le_of_ble_eq_true rfl⟩ rfl dX11_isGuess_14) h (fun r12 f13 H locs p14 h => ?_)
    have n15 : (0 : Int64).toInt = 0 := rfl
    have n16 : (4 : Int64).toInt = 4 := rfl
    obtain ⟨ir12, tf13, ogf13, cnr12⟩ := p14
    have egf13 := Fr.nil2 ogf13
    subst egf13
    refine lv_if_eq (tgt := 70) hx hb dX11_isGuess_17 (by decide) (fun c17 => ?_) (fun c17 => ?_)
    · have c18 : r12.toInt = 0 := congrArg Int32.toInt c17
      have i19 : iv r12 0 0 := iv_Q c18 ir12 (iv_k (x := 0) (k := 0) rfl) (by decide)
      refine lv_iconst (v := 0) hx hb dX11_isGuess_70 (by decide) ?_
      exact u_zret C h hr hQ ⟨by decide, by decide⟩ (⟨⟨by decide, by decide⟩, t, o, (fun h_ => absurd h_ (by decide))⟩) (Nat.le_of_ble_eq_true rfl) (Nat.le_of_ble_eq_true rfl) dX11_isGuess_71
    · have c20 : r12.toInt ≠ 0 := fun z_ => c17 (Int32.toInt_inj.mp z_)
      have i21 : iv r12 1 1 := iv_Nl c20 ir12 (by decide)
      obtain ⟨i22, i23⟩ := cnr12 c20
      have i24 : iv u2 0 4 := ⟨by omega, by omega⟩
      refine lv_iload hx hb dX11_isGuess_20 (lv_at hl 4 rfl) ?_
      refine lv_i2l hx hb dX11_isGuess_22 rfl (i_topL hu4 (fun w25 ew25 mw25 iw25 => ?_))
      refine lv_lconst (v := 1) hx hb dX11_isGuess_23 (by decide) ?_
      refine lv_iload_n hx hb dX11_isGuess_24 rfl (lv_at hl 3 rfl) ?_
      refine lv_if_ne (tgt := 34) hx hb dX11_isGuess_25 (by decide) (fun c26 => ?_) (fun c26 => ?_)
      · have c27 : u3.toInt ≠ 0 := fun z_ => c26 (Int32.toInt_inj.mp z_)
        exact (iv_cn_ c27 hu3 (iv_k (x := 0) (k := 0) rfl) (by decide)).elim
      · have c28 : u3.toInt = 0 := congrArg Int32.toInt c26
        refine lv_ldc2 (v := 4) hx hb hown (hts _ w_1730) dX11_isGuess_28 ?_
        refine lv_goto (tgt := 37) hx hb dX11_isGuess_31 (by decide) ?_
        refine k_i (r_S C h hl (As := [.long w25, .long 1, .long 4]) (rest := []) (s_X11_isIn l D G b0 τ f t w25 1 4) mk_X11_isIn w_1624 w_1625 w_1626 ⟨Nat.le_of_ble_eq_true rfl, Nat.le_of_ble_eq_true rfl⟩ rfl (Nat.le_of_ble_eq_true rfl) ⟨Nat.le_of_ble_eq_true rfl, Nat.le_of_ble_eq_true rfl⟩ rfl dX11_isGuess_37) h (fun r29 f30 H locs p31 h => ?_)
        have n32 : (1 : Int64).toInt = 1 := rfl
        have n33 : (4 : Int64).toInt = 4 := rfl
        obtain ⟨ir29, tf30, ogf30, cnr29⟩ := p31
        have egf30 := Fr.nil2 ogf30
        subst egf30
        refine lv_if_eq (tgt := 70) hx hb dX11_isGuess_40 (by decide) (fun c34 => ?_) (fun c34 => ?_)
        · have c35 : r29.toInt = 0 := congrArg Int32.toInt c34
          have i36 : iv r29 0 0 := iv_Q c35 ir29 (iv_k (x := 0) (k := 0) rfl) (by decide)
          refine lv_iconst (v := 0) hx hb dX11_isGuess_70 (by decide) ?_
          exact u_zret C h hr hQ ⟨by decide, by decide⟩ (⟨⟨by decide, by decide⟩, t, o, (fun h_ => absurd h_ (by decide))⟩) (Nat.le_of_ble_eq_true rfl) (Nat.le_of_ble_eq_true rfl) dX11_isGuess_71
        · have c37 : r29.toInt ≠ 0 := fun z_ => c34 (Int32.toInt_inj.mp z_)
          have i38 : iv r29 1 1 := iv_Nl c37 ir29 (by decide)
          obtain ⟨i39, i40⟩ := cnr29 c37
          have i41 : iv u4 1 4 := ⟨by omega, by omega⟩
          refine lv_iload hx hb dX11_isGuess_43 (lv_at hl 5 rfl) ?_
          refine lv_i2l hx hb dX11_isGuess_45 rfl (i_topL hu5 (fun w42 ew42 mw42 iw42 => ?_))
          refine lv_lconst (v := 0) hx hb dX11_isGuess_46 (by decide) ?_
          refine lv_iload_n hx hb dX11_isGuess_47 rfl (lv_at hl 3 rfl) ?_
          refine lv_if_ne (tgt := 57) hx hb dX11_isGuess_48 (by decide) (fun c43 => ?_) (fun c43 => ?_)
          · have c44 : u3.toInt ≠ 0 := fun z_ => c43 (Int32.toInt_inj.mp z_)
            exact (iv_cn_ c44 hu3 (iv_k (x := 0) (k := 0) rfl) (by decide)).elim
          · have c45 : u3.toInt = 0 := congrArg Int32.toInt c43
            refine lv_ldc2 (v := 4) hx hb hown (hts _ w_1730) dX11_isGuess_51 ?_
            refine lv_goto (tgt := 60) hx hb dX11_isGuess_54 (by decide) ?_
            refine k_i (r_S C h hl (As := [.long w42, .long 0, .long 4]) (rest := []) (s_X11_isIn l D G b0 τ f t w42 0 4) mk_X11_isIn w_1624 w_1625 w_1626 ⟨Nat.le_of_ble_eq_true rfl, Nat.le_of_ble_eq_true rfl⟩ rfl (Nat.le_of_ble_eq_true rfl) ⟨Nat.le_of_ble_eq_true rfl, Nat.le_of_ble_eq_true rfl⟩ rfl dX11_isGuess_60) h (fun r46 f47 H locs p48 h => ?_)
            have n49 : (0 : Int64).toInt = 0 := rfl
            have n50 : (4 : Int64).toInt = 4 := rfl
            obtain ⟨ir46, tf47, ogf47, cnr46⟩ := p48
            have egf47 := Fr.nil2 ogf47
            subst egf47
            refine lv_if_eq (tgt := 70) hx hb dX11_isGuess_63 (by decide) (fun c51 => ?_) (fun c51 => ?_)
            · have c52 : r46.toInt = 0 := congrArg Int32.toInt c51
              have i53 : iv r46 0 0 := iv_Q c52 ir46 (iv_k (x := 0) (k := 0) rfl) (by decide)
              refine lv_iconst (v := 0) hx hb dX11_isGuess_70 (by decide) ?_
              exact u_zret C h hr hQ ⟨by decide, by decide⟩ (⟨⟨by decide, by decide⟩, t, o, (fun h_ => absurd h_ (by decide))⟩) (Nat.le_of_ble_eq_true rfl) (Nat.le_of_ble_eq_true rfl) dX11_isGuess_71
            · have c54 : r46.toInt ≠ 0 := fun z_ => c51 (Int32.toInt_inj.mp z_)
              have i55 : iv r46 1 1 := iv_Nl c54 ir46 (by decide)
              obtain ⟨i56, i57⟩ := cnr46 c54
              have i58 : iv u5 0 4 := ⟨by omega, by omega⟩
              refine lv_iconst (v := 1) hx hb dX11_isGuess_66 (by decide) ?_
              refine lv_goto (tgt := 71) hx hb dX11_isGuess_67 (by decide) ?_
              exact u_zret C h hr hQ ⟨by decide, by decide⟩ (⟨⟨by decide, by decide⟩, t, o, (fun _ => ⟨i10, i24, i41, i58⟩)⟩) (Nat.le_of_ble_eq_true rfl) (Nat.le_of_ble_eq_true rfl) dX11_isGuess_71
abbrev rm_s_X11_numberOfa : Room := { frames := 5, cells := 0, slots := 0, locals := 122 }
set_option maxRecDepth 100000 in
set_option maxHeartbeats 4000000 in
theorem s_X11_numberOfa (l : Launch) (D : va_G) (G : Nat → Nat) (b0 : Nat) (τ : Nat → Nat) (f : hM) (t : TI G 9 τ f) (u0 : Nat) (hu0 : τ u0 = 60) (u1 : Int32) (hu1 : iv u1 (-2147483648) 2147483647) (u2 : Int32) (hu2 : iv u2 (-2147483648) 2147483647) (u3 : Int32) (hu3 : iv u3 0 0) (u4 : Int32) (hu4 : iv u4 (-2147483648) 2147483647) (u5 : Int32) (hu5 : iv u5 (-2147483648) 2147483647) (u6 : Int32) (hu6 : iv u6 (-2147483648) 2147483647) (u7 : Int32) (hu7 : iv u7 (-2147483648) 2147483647) (hNG : NGs τ f u0) : mI l yX11_numberOf cX11_numberOf 8 (.int) rm_s_X11_numberOfa D G b0 f [.ref u0, .int u1, .int u2, .int u3, .int u4, .int u5, .int u6, .int u7] (fun r f1 => iv r (-2147483648) 2147483647 ∧ TI G 9 τ f1 ∧ Fr [60, 67, 69, 72, 73, 74, 75, 76, 60013, 60014, 60015, 60028, 60029] τ f f1 ∧ NGs τ f1 u0) := by
  refine met2 (own := RX11) (by decide) rfl (Nat.le_of_ble_eq_true rfl) ?_
  intro p e s m args below meth c ls Q hQ C hr hini hl h
  have hl : lv_has ls 8 [(0, .ref u0), (1, .int u1), (2, .int u2), (3, .int u3), (4, .int u4), (5, .int u5), (6, .int u6), (7, .int u7)] := hl
  obtain ⟨hx, hb, hml, hown, hts, hE0, hlk⟩ := id C
  have o := Fr.rf [60, 67, 69, 72, 73, 74, 75, 76, 60013, 60014, 60015, 60028, 60029] τ f
  refine lv_aload_n hx hb dX11_numberOf_0 rfl (lv_at hl 0 rfl) ?_
  refine lv_iload_n hx hb dX11_numberOf_1 rfl (lv_at hl 1 rfl) ?_
  refine lv_iload_n hx hb dX11_numberOf_2 rfl (lv_at hl 2 rfl) ?_
  refine lv_iload_n hx hb dX11_numberOf_3 rfl (lv_at hl 3 rfl) ?_
  refine lv_iload hx hb dX11_numberOf_4 (lv_at hl 4 rfl) ?_
  refine lv_iload hx hb dX11_numberOf_6 (lv_at hl 5 rfl) ?_
  obtain ⟨_, r1⟩ := t_rec t hu0 (by decide) wf_60
  refine k_i (r_V C h hl (As := [.int u1, .int u2, .int u3, .int u4, .int u5]) (rest := []) (s_X11_isGuessa l D G b0 τ f t u0 hu0 u1 hu1 u2 hu2 u3 hu3 u4 hu4 u5 hu5) r1 (Cn := RX11) (T := TX11) (N := 32) rfl rfl mk_X11_isGuess w_1936 w_1938 w_78 w_1939 ⟨Nat.le_of_ble_eq_true rfl, Nat.le_of_ble_eq_true rfl⟩ rfl (Nat.le_of_ble_eq_true rfl) ⟨Nat.le_of_ble_eq_true rfl, Nat.le_of_ble_eq_true rfl⟩ rfl dX11_numberOf_8) h (fun r2 f3 H locs p4 h => ?_)
  obtain ⟨ir2, tf3, ogf3, cnr2⟩ := p4
  have egf3 := Fr.nil2 ogf3
  subst egf3
  refine lv_if_eq (tgt := 40) hx hb dX11_numberOf_11 (by decide) (fun c5 => ?_) (fun c5 => ?_)
  · have c6 : r2.toInt = 0 := congrArg Int32.toInt c5
    have i7 : iv r2 0 0 := iv_Q c6 ir2 (iv_k (x := 0) (k := 0) rfl) (by decide)
    refine lv_ldcw (v := -1000000) hx hb hown (hts _ w_1787) dX11_numberOf_40 ?_
    exact u_iret C h hr hQ (⟨⟨by decide, by decide⟩, t, o, hNG⟩) (Nat.le_of_ble_eq_true rfl) (Nat.le_of_ble_eq_true rfl) dX11_numberOf_43
  · have c8 : r2.toInt ≠ 0 := fun z_ => c5 (Int32.toInt_inj.mp z_)
    have i9 : iv r2 1 1 := iv_Nl c8 ir2 (by decide)
    obtain ⟨i10, i11, i12, i13⟩ := cnr2 c8
    refine lv_iload hx hb dX11_numberOf_14 (lv_at hl 6 rfl) ?_
    refine lv_i2l hx hb dX11_numberOf_16 rfl (i_topL hu6 (fun w14 ew14 mw14 iw14 => ?_))
    refine lv_lconst (v := 0) hx hb dX11_numberOf_17 (by decide) ?_
    refine lv_iload hx hb dX11_numberOf_18 (lv_at hl 4 rfl) ?_
    refine lv_i2l hx hb dX11_numberOf_20 rfl (i_topL i12 (fun w15 ew15 mw15 iw15 => ?_))
    refine k_i (r_S C h hl (As := [.long w14, .long 0, .long w15]) (rest := []) (s_X11_isIn l D G b0 τ f t w14 0 w15) mk_X11_isIn w_1624 w_1625 w_1626 ⟨Nat.le_of_ble_eq_true rfl, Nat.le_of_ble_eq_true rfl⟩ rfl (Nat.le_of_ble_eq_true rfl) ⟨Nat.le_of_ble_eq_true rfl, Nat.le_of_ble_eq_true rfl⟩ rfl dX11_numberOf_21) h (fun r16 f17 H locs p18 h => ?_)
    have n19 : (0 : Int64).toInt = 0 := rfl
    obtain ⟨ir16, tf17, ogf17, cnr16⟩ := p18
    have egf17 := Fr.nil2 ogf17
    subst egf17
    refine lv_if_eq (tgt := 40) hx hb dX11_numberOf_24 (by decide) (fun c20 => ?_) (fun c20 => ?_)
    · have c21 : r16.toInt = 0 := congrArg Int32.toInt c20
      have i22 : iv r16 0 0 := iv_Q c21 ir16 (iv_k (x := 0) (k := 0) rfl) (by decide)
      refine lv_ldcw (v := -1000000) hx hb hown (hts _ w_1787) dX11_numberOf_40 ?_
      exact u_iret C h hr hQ (⟨⟨by decide, by decide⟩, t, o, hNG⟩) (Nat.le_of_ble_eq_true rfl) (Nat.le_of_ble_eq_true rfl) dX11_numberOf_43
    · have c23 : r16.toInt ≠ 0 := fun z_ => c20 (Int32.toInt_inj.mp z_)
      have i24 : iv r16 1 1 := iv_Nl c23 ir16 (by decide)
      obtain ⟨i25, i26⟩ := cnr16 c23
      have i27 : iv u6 0 4 := ⟨by omega, by omega⟩
      refine lv_iload hx hb dX11_numberOf_27 (lv_at hl 7 rfl) ?_
      refine lv_i2l hx hb dX11_numberOf_29 rfl (i_topL hu7 (fun w28 ew28 mw28 iw28 => ?_))
      refine lv_lconst (v := 0) hx hb dX11_numberOf_30 (by decide) ?_
      refine lv_iload hx hb dX11_numberOf_31 (lv_at hl 5 rfl) ?_
      refine lv_i2l hx hb dX11_numberOf_33 rfl (i_topL i13 (fun w29 ew29 mw29 iw29 => ?_))
      refine k_i (r_S C h hl (As := [.long w28, .long 0, .long w29]) (rest := []) (s_X11_isIn l D G b0 τ f t w28 0 w29) mk_X11_isIn w_1624 w_1625 w_1626 ⟨Nat.le_of_ble_eq_true rfl, Nat.le_of_ble_eq_true rfl⟩ rfl (Nat.le_of_ble_eq_true rfl) ⟨Nat.le_of_ble_eq_true rfl, Nat.le_of_ble_eq_true rfl⟩ rfl dX11_numberOf_34) h (fun r30 f31 H locs p32 h => ?_)
      have n33 : (0 : Int64).toInt = 0 := rfl
      obtain ⟨ir30, tf31, ogf31, cnr30⟩ := p32
      have egf31 := Fr.nil2 ogf31
      subst egf31
      refine lv_if_ne (tgt := 44) hx hb dX11_numberOf_37 (by decide) (fun c34 => ?_) (fun c34 => ?_)
      · have c35 : r30.toInt ≠ 0 := fun z_ => c34 (Int32.toInt_inj.mp z_)
        have i36 : iv r30 1 1 := iv_Nl c35 ir30 (by decide)
        obtain ⟨i37, i38⟩ := cnr30 c35
        have i39 : iv u7 0 4 := ⟨by omega, by omega⟩
        refine lv_aload_n hx hb dX11_numberOf_44 rfl (lv_at hl 0 rfl) ?_
        refine lv_iload_n hx hb dX11_numberOf_45 rfl (lv_at hl 1 rfl) ?_
        refine lv_iload_n hx hb dX11_numberOf_46 rfl (lv_at hl 2 rfl) ?_
        obtain ⟨_, r42⟩ := t_rec t hu0 (by decide) wf_60
        refine k_v (r_V C h hl (As := [.int u1, .int u2]) (rest := []) (s_X11_laysAll l D G b0 τ f t u0 hu0 u1 i10 u2 (iv_w i11 (by decide)) hNG) r42 (Cn := RX11) (T := TX11) (N := 32) rfl rfl mk_X11_laysAll w_1942 w_1944 w_79 w_1945 ⟨Nat.le_of_ble_eq_true rfl, Nat.le_of_ble_eq_true rfl⟩ rfl (Nat.le_of_ble_eq_true rfl) ⟨Nat.le_of_ble_eq_true rfl, Nat.le_of_ble_eq_true rfl⟩ rfl dX11_numberOf_47) h (fun f44 H locs p45 h => ?_)
        obtain ⟨tf44, ogf44, ngf44⟩ := p45
        have of44 : Fr [60, 67, 69, 72, 73, 74, 75, 76, 60013, 60014, 60015, 60028, 60029] τ f f44 := Fr.tr o ogf44 (by decide) (by decide)
        refine lv_aload_n hx hb dX11_numberOf_50 rfl (lv_at hl 0 rfl) ?_
        refine lv_iload_n hx hb dX11_numberOf_51 rfl (lv_at hl 3 rfl) ?_
        refine lv_iload hx hb dX11_numberOf_52 (lv_at hl 4 rfl) ?_
        refine lv_iload hx hb dX11_numberOf_54 (lv_at hl 5 rfl) ?_
        obtain ⟨_, r46⟩ := t_rec tf44 hu0 (by decide) wf_60
        refine k_i (r_V C h hl (As := [.int u3, .int u4, .int u5]) (rest := []) (s_X11_guessesa l D G b0 τ f44 tf44 u0 hu0 u3 hu3 u4 i12 u5 i13) r46 (Cn := RX11) (T := TX11) (N := 32) rfl rfl mk_X11_guesses w_1950 w_1952 w_81 w_1953 ⟨Nat.le_of_ble_eq_true rfl, Nat.le_of_ble_eq_true rfl⟩ rfl (Nat.le_of_ble_eq_true rfl) ⟨Nat.le_of_ble_eq_true rfl, Nat.le_of_ble_eq_true rfl⟩ rfl dX11_numberOf_56) h (fun r47 f48 H locs p49 h => ?_)
        obtain ⟨ir47, tf48, ogf48⟩ := p49
        have of48 : Fr [60, 67, 69, 72, 73, 74, 75, 76, 60013, 60014, 60015, 60028, 60029] τ f f48 := Fr.tr of44 ogf48 (by decide) (by decide)
        have k50 := NGs.fr ngf44 ogf48 hu0 (by decide)
        refine lv_if_eq (tgt := 81) hx hb dX11_numberOf_59 (by decide) (fun c51 => ?_) (fun c51 => ?_)
        · have c52 : r47.toInt = 0 := congrArg Int32.toInt c51
          have i53 : iv r47 0 0 := iv_Q c52 ir47 (iv_k (x := 0) (k := 0) rfl) (by decide)
          refine lv_iconst (v := -1) hx hb dX11_numberOf_81 (by decide) ?_
          exact u_iret C h hr hQ (⟨⟨by decide, by decide⟩, tf48, of48, k50⟩) (Nat.le_of_ble_eq_true rfl) (Nat.le_of_ble_eq_true rfl) dX11_numberOf_82
        · have c54 : r47.toInt ≠ 0 := fun z_ => c51 (Int32.toInt_inj.mp z_)
          have i55 : iv r47 1 1 := iv_Nl c54 ir47 (by decide)
          refine lv_aload_n hx hb dX11_numberOf_62 rfl (lv_at hl 0 rfl) ?_
          refine t_getr (tq := 74) C h tf48 hu0 (by decide) wf_60 rfl fl_X11_63 dX11_numberOf_63 (fun q56 tq56 => ?_)
          refine lv_iload hx hb dX11_numberOf_66 (lv_at hl 5 rfl) ?_
          refine lv_iconst (v := 1) hx hb dX11_numberOf_68 (by decide) ?_
          refine i_addk hx hb dX11_numberOf_69 i13 (k := 1) rfl (lo := 1) (hi := 5) (by decide) (fun z57 ez57 mz57 iz57 => ?_)
          refine lv_iload hx hb dX11_numberOf_70 (lv_at hl 6 rfl) ?_
          refine i_mulp hx hb dX11_numberOf_72 iz57 i27 (lo := 0) (hi := 20) (by decide) (fun z58 ez58 iz58 => ?_)
          refine lv_iload hx hb dX11_numberOf_73 (lv_at hl 7 rfl) ?_
          refine i_add hx hb dX11_numberOf_75 iz58 i39 (lo := 0) (hi := 24) (by decide) (fun z59 ez59 mz59 iz59 => ?_)
          refine t_lald C h tf48 tq56 (by decide) wf_74 (iv_in iz59 (by decide)) dX11_numberOf_76 (fun w60 => ?_)
          refine lv_l2i hx hb dX11_numberOf_77 rfl (i_top (iv_any _) (fun z61 ez61 iz61 => ?_))
          refine lv_goto (tgt := 82) hx hb dX11_numberOf_78 (by decide) ?_
          exact u_iret C h hr hQ (⟨iz61, tf48, of48, k50⟩) (Nat.le_of_ble_eq_true rfl) (Nat.le_of_ble_eq_true rfl) dX11_numberOf_82
      · have c40 : r30.toInt = 0 := congrArg Int32.toInt c34
        have i41 : iv r30 0 0 := iv_Q c40 ir30 (iv_k (x := 0) (k := 0) rfl) (by decide)
        refine lv_ldcw (v := -1000000) hx hb hown (hts _ w_1787) dX11_numberOf_40 ?_
        exact u_iret C h hr hQ (⟨⟨by decide, by decide⟩, t, o, hNG⟩) (Nat.le_of_ble_eq_true rfl) (Nat.le_of_ble_eq_true rfl) dX11_numberOf_43
abbrev rm_s_X11_failOfa : Room := { frames := 5, cells := 0, slots := 0, locals := 122 }
set_option maxRecDepth 100000 in
set_option maxHeartbeats 4000000 in
theorem s_X11_failOfa (l : Launch) (D : va_G) (G : Nat → Nat) (b0 : Nat) (τ : Nat → Nat) (f : hM) (t : TI G 9 τ f) (u0 : Nat) (hu0 : τ u0 = 60) (u1 : Int32) (hu1 : iv u1 (-2147483648) 2147483647) (u2 : Int32) (hu2 : iv u2 (-2147483648) 2147483647) (u3 : Int32) (hu3 : iv u3 0 0) (u4 : Int32) (hu4 : iv u4 (-2147483648) 2147483647) (u5 : Int32) (hu5 : iv u5 (-2147483648) 2147483647) (hNG : NGs τ f u0) : mI l yX11_failOf cX11_failOf 6 (.int) rm_s_X11_failOfa D G b0 f [.ref u0, .int u1, .int u2, .int u3, .int u4, .int u5] (fun r f1 => iv r (-1000000) 59 ∧ TI G 9 τ f1 ∧ Fr [60, 67, 69, 72, 73, 74, 75, 76, 60013, 60014, 60015, 60028, 60029] τ f f1 ∧ NGs τ f1 u0) := by
  refine met2 (own := RX11) (by decide) rfl (Nat.le_of_ble_eq_true rfl) ?_
  intro p e s m args below meth c ls Q hQ C hr hini hl h
  have hl : lv_has ls 6 [(0, .ref u0), (1, .int u1), (2, .int u2), (3, .int u3), (4, .int u4), (5, .int u5)] := hl
  obtain ⟨hx, hb, hml, hown, hts, hE0, hlk⟩ := id C
  have o := Fr.rf [60, 67, 69, 72, 73, 74, 75, 76, 60013, 60014, 60015, 60028, 60029] τ f
  refine lv_aload_n hx hb dX11_failOf_0 rfl (lv_at hl 0 rfl) ?_
  refine lv_iload_n hx hb dX11_failOf_1 rfl (lv_at hl 1 rfl) ?_
  refine lv_iload_n hx hb dX11_failOf_2 rfl (lv_at hl 2 rfl) ?_
  refine lv_iload_n hx hb dX11_failOf_3 rfl (lv_at hl 3 rfl) ?_
  refine lv_iload hx hb dX11_failOf_4 (lv_at hl 4 rfl) ?_
  refine lv_iload hx hb dX11_failOf_6 (lv_at hl 5 rfl) ?_
  obtain ⟨_, r1⟩ := t_rec t hu0 (by decide) wf_60
  refine k_i (r_V C h hl (As := [.int u1, .int u2, .int u3, .int u4, .int u5]) (rest := []) (s_X11_isGuessa l D G b0 τ f t u0 hu0 u1 hu1 u2 hu2 u3 hu3 u4 hu4 u5 hu5) r1 (Cn := RX11) (T := TX11) (N := 32) rfl rfl mk_X11_isGuess w_1936 w_1938 w_78 w_1939 ⟨Nat.le_of_ble_eq_true rfl, Nat.le_of_ble_eq_true rfl⟩ rfl (Nat.le_of_ble_eq_true rfl) ⟨Nat.le_of_ble_eq_true rfl, Nat.le_of_ble_eq_true rfl⟩ rfl dX11_failOf_8) h (fun r2 f3 H locs p4 h => ?_)
  obtain ⟨ir2, tf3, ogf3, cnr2⟩ := p4
  have egf3 := Fr.nil2 ogf3
  subst egf3
  refine lv_if_ne (tgt := 18) hx hb dX11_failOf_11 (by decide) (fun c5 => ?_) (fun c5 => ?_)
  · have c6 : r2.toInt ≠ 0 := fun z_ => c5 (Int32.toInt_inj.mp z_)
    have i7 : iv r2 1 1 := iv_Nl c6 ir2 (by decide)
    obtain ⟨i8, i9, i10, i11⟩ := cnr2 c6
    refine lv_aload_n hx hb dX11_failOf_18 rfl (lv_at hl 0 rfl) ?_
    refine lv_iload_n hx hb dX11_failOf_19 rfl (lv_at hl 1 rfl) ?_
    refine lv_iload_n hx hb dX11_failOf_20 rfl (lv_at hl 2 rfl) ?_
    obtain ⟨_, r14⟩ := t_rec t hu0 (by decide) wf_60
    refine k_v (r_V C h hl (As := [.int u1, .int u2]) (rest := []) (s_X11_laysAll l D G b0 τ f t u0 hu0 u1 i8 u2 (iv_w i9 (by decide)) hNG) r14 (Cn := RX11) (T := TX11) (N := 32) rfl rfl mk_X11_laysAll w_1942 w_1944 w_79 w_1945 ⟨Nat.le_of_ble_eq_true rfl, Nat.le_of_ble_eq_true rfl⟩ rfl (Nat.le_of_ble_eq_true rfl) ⟨Nat.le_of_ble_eq_true rfl, Nat.le_of_ble_eq_true rfl⟩ rfl dX11_failOf_21) h (fun f16 H locs p17 h => ?_)
    obtain ⟨tf16, ogf16, ngf16⟩ := p17
    have of16 : Fr [60, 67, 69, 72, 73, 74, 75, 76, 60013, 60014, 60015, 60028, 60029] τ f f16 := Fr.tr o ogf16 (by decide) (by decide)
    refine lv_aload_n hx hb dX11_failOf_24 rfl (lv_at hl 0 rfl) ?_
    refine lv_iload_n hx hb dX11_failOf_25 rfl (lv_at hl 3 rfl) ?_
    refine lv_iload hx hb dX11_failOf_26 (lv_at hl 4 rfl) ?_
    refine lv_iload hx hb dX11_failOf_28 (lv_at hl 5 rfl) ?_
    obtain ⟨_, r18⟩ := t_rec tf16 hu0 (by decide) wf_60
    refine k_i (r_V C h hl (As := [.int u3, .int u4, .int u5]) (rest := []) (s_X11_guessesa l D G b0 τ f16 tf16 u0 hu0 u3 hu3 u4 i10 u5 i11) r18 (Cn := RX11) (T := TX11) (N := 32) rfl rfl mk_X11_guesses w_1950 w_1952 w_81 w_1953 ⟨Nat.le_of_ble_eq_true rfl, Nat.le_of_ble_eq_true rfl⟩ rfl (Nat.le_of_ble_eq_true rfl) ⟨Nat.le_of_ble_eq_true rfl, Nat.le_of_ble_eq_true rfl⟩ rfl dX11_failOf_30) h (fun r19 f20 H locs p21 h => ?_)
    obtain ⟨ir19, tf20, ogf20⟩ := p21
    have of20 : Fr [60, 67, 69, 72, 73, 74, 75, 76, 60013, 60014, 60015, 60028, 60029] τ f f20 := Fr.tr of16 ogf20 (by decide) (by decide)
    have k22 := NGs.fr ngf16 ogf20 hu0 (by decide)
    refine lv_if_eq (tgt := 48) hx hb dX11_failOf_33 (by decide) (fun c23 => ?_) (fun c23 => ?_)
    · have c24 : r19.toInt = 0 := congrArg Int32.toInt c23
      have i25 : iv r19 0 0 := iv_Q c24 ir19 (iv_k (x := 0) (k := 0) rfl) (by decide)
      refine lv_bipush (v := -2) hx hb dX11_failOf_48 (by decide) ?_
      exact u_iret C h hr hQ (⟨⟨by decide, by decide⟩, tf20, of20, k22⟩) (Nat.le_of_ble_eq_true rfl) (Nat.le_of_ble_eq_true rfl) dX11_failOf_50
    · have c26 : r19.toInt ≠ 0 := fun z_ => c23 (Int32.toInt_inj.mp z_)
      have i27 : iv r19 1 1 := iv_Nl c26 ir19 (by decide)
      refine lv_aload_n hx hb dX11_failOf_36 rfl (lv_at hl 0 rfl) ?_
      refine lv_iload_n hx hb dX11_failOf_37 rfl (lv_at hl 3 rfl) ?_
      refine lv_iload hx hb dX11_failOf_38 (lv_at hl 4 rfl) ?_
      refine lv_iload hx hb dX11_failOf_40 (lv_at hl 5 rfl) ?_
      obtain ⟨_, r28⟩ := t_rec tf20 hu0 (by decide) wf_60
      refine k_i (r_V C h hl (As := [.int u3, .int u4, .int u5]) (rest := []) (s_X11_failsAta l D G b0 τ f20 tf20 u0 hu0 u3 hu3 u4 i10 u5 i11) r28 (Cn := RX11) (T := TX11) (N := 32) rfl rfl mk_X11_failsAt w_1981 w_1983 w_87 w_1984 ⟨Nat.le_of_ble_eq_true rfl, Nat.le_of_ble_eq_true rfl⟩ rfl (Nat.le_of_ble_eq_true rfl) ⟨Nat.le_of_ble_eq_true rfl, Nat.le_of_ble_eq_true rfl⟩ rfl dX11_failOf_42) h (fun r29 f30 H locs p31 h => ?_)
      obtain ⟨ir29, tf30, ogf30⟩ := p31
      have egf30 := Fr.nil2 ogf30
      subst egf30
      refine lv_goto (tgt := 50) hx hb dX11_failOf_45 (by decide) ?_
      exact u_iret C h hr hQ (⟨(iv_w ir29 (by decide)), tf20, of20, k22⟩) (Nat.le_of_ble_eq_true rfl) (Nat.le_of_ble_eq_true rfl) dX11_failOf_50
  · have c12 : r2.toInt = 0 := congrArg Int32.toInt c5
    have i13 : iv r2 0 0 := iv_Q c12 ir2 (iv_k (x := 0) (k := 0) rfl) (by decide)
    refine lv_ldcw (v := -1000000) hx hb hown (hts _ w_1787) dX11_failOf_14 ?_
    exact u_iret C h hr hQ (⟨⟨by decide, by decide⟩, t, o, hNG⟩) (Nat.le_of_ble_eq_true rfl) (Nat.le_of_ble_eq_true rfl) dX11_failOf_17
abbrev rm_s_X11_entryb : Room := { frames := 0, cells := 0, slots := 0, locals := 0 }
set_option maxRecDepth 100000 in
set_option maxHeartbeats 4000000 in
theorem s_X11_entryb (l : Launch) (D : va_G) (G : Nat → Nat) (b0 : Nat) (τ : Nat → Nat) (f : hM) (t : TI G 9 τ f) (u0 : Nat) (hu0 : τ u0 = 60) (u1 : Int32) (hu1 : iv u1 1 1) (u2 : Int32) (hu2 : iv u2 0 3) (u3 : Int32) (hu3 : iv u3 0 6) (u4 : Int32) (hu4 : iv u4 0 60) : mL l yX11_entry cX11_entry 5 rm_s_X11_entryb D G b0 f [.ref u0, .int u1, .int u2, .int u3, .int u4] (fun r f1 => TI G 9 τ f1 ∧ Fr [] τ f f1) := by
  refine met2 (own := RX11) (by decide) rfl (Nat.le_of_ble_eq_true rfl) ?_
  intro p e s m args below meth c ls Q hQ C hr hini hl h
  have hl : lv_has ls 5 [(0, .ref u0), (1, .int u1), (2, .int u2), (3, .int u3), (4, .int u4)] := hl
  obtain ⟨hx, hb, hml, hown, hts, hE0, hlk⟩ := id C
  have o := Fr.rf [] τ f
  refine lv_iload_n hx hb dX11_entry_0 rfl (lv_at hl 1 rfl) ?_
  refine lv_if_ne (tgt := 31) hx hb dX11_entry_1 (by decide) (fun c1 => ?_) (fun c1 => ?_)
  · have c2 : u1.toInt ≠ 0 := fun z_ => c1 (Int32.toInt_inj.mp z_)
    refine lv_iload hx hb dX11_entry_31 (lv_at hl 4 rfl) ?_
    refine lv_iload_n hx hb dX11_entry_33 rfl (lv_at hl 3 rfl) ?_
    refine lv_icmp_ge (tgt := 41) hx hb dX11_entry_34 (by decide) (fun c4 => ?_) (fun c4 => ?_)
    · have c5 : u3.toInt ≤ u4.toInt := Int32.le_iff_toInt_le.mp c4
      refine lv_aload_n hx hb dX11_entry_41 rfl (lv_at hl 0 rfl) ?_
      refine t_getr (tq := 76) C h t hu0 (by decide) wf_60 rfl fl_X11_69 dX11_entry_42 (fun q9 tq9 => ?_)
      refine lv_bipush (v := 61) hx hb dX11_entry_45 (by decide) ?_
      refine lv_iload_n hx hb dX11_entry_47 rfl (lv_at hl 2 rfl) ?_
      refine i_cmul hx hb dX11_entry_48 (k := 61) rfl hu2 (lo := 0) (hi := 183) (by decide) (fun z10 ez10 mz10 iz10 => ?_)
      refine lv_iload hx hb dX11_entry_49 (lv_at hl 4 rfl) ?_
      refine i_add hx hb dX11_entry_51 iz10 hu4 (lo := 0) (hi := 243) (by decide) (fun z11 ez11 mz11 iz11 => ?_)
      refine lv_iload_n hx hb dX11_entry_52 rfl (lv_at hl 3 rfl) ?_
      refine i_sub hx hb dX11_entry_53 iz11 hu3 (lo := (-6)) (hi := 243) (by decide) (fun z12 ez12 mz12 iz12 => ?_)
      refine t_lald C h t tq9 (by decide) wf_76 (ix_o (by omega)) dX11_entry_54 (fun w13 => ?_)
      exact u_lret C h hr hQ (⟨t, o⟩) (Nat.le_of_ble_eq_true rfl) (Nat.le_of_ble_eq_true rfl) dX11_entry_55
    · have c6 : u4.toInt < u3.toInt := Int32.lt_iff_toInt_lt.mp (iv_nle c4)
      have i7 : iv u4 0 5 := iv_Ll c6 hu4 hu3 (by decide)
      have i8 : iv u3 1 6 := iv_Lr c6 hu4 hu3 (by decide)
      refine lv_lconst (v := 0) hx hb dX11_entry_37 (by decide) ?_
      refine lv_goto (tgt := 55) hx hb dX11_entry_38 (by decide) ?_
      exact u_lret C h hr hQ (⟨t, o⟩) (Nat.le_of_ble_eq_true rfl) (Nat.le_of_ble_eq_true rfl) dX11_entry_55
  · have c3 : u1.toInt = 0 := congrArg Int32.toInt c1
    exact (iv_cq_ c3 hu1 (iv_k (x := 0) (k := 0) rfl) (by decide)).elim
abbrev rm_s_X11_guessesb : Room := { frames := 3, cells := 0, slots := 0, locals := 72 }
set_option maxRecDepth 100000 in
set_option maxHeartbeats 4000000 in
theorem s_X11_guessesb (l : Launch) (D : va_G) (G : Nat → Nat) (b0 : Nat) (τ : Nat → Nat) (f : hM) (t : TI G 9 τ f) (u0 : Nat) (hu0 : τ u0 = 60) (u1 : Int32) (hu1 : iv u1 1 1) (u2 : Int32) (hu2 : iv u2 1 3) (u3 : Int32) (hu3 : iv u3 0 6) : mI l yX11_guesses cX11_guesses 7 (.boolean) rm_s_X11_guessesb D G b0 f [.ref u0, .int u1, .int u2, .int u3] (fun r f1 => iv r 0 1 ∧ TI G 9 τ f1 ∧ Fr [60, 72, 73, 74, 75, 60028, 60029] τ f f1) := by
  refine met2 (own := RX11) (by decide) rfl (Nat.le_of_ble_eq_true rfl) ?_
  intro p e s m args below meth c ls Q hQ C hr hini hl h
  have hl : lv_has ls 7 [(0, .ref u0), (1, .int u1), (2, .int u2), (3, .int u3)] := hl
  obtain ⟨hx, hb, hml, hown, hts, hE0, hlk⟩ := id C
  have o := Fr.rf [60, 72, 73, 74, 75, 60028, 60029] τ f
  have L24 : ∀ (n24 : Nat) (ls : Array Slot) (f_24 : hM) (H : Heap) (locs : List Loc) (v24_4 : Int32), 4 - v24_4.toInt < (n24 : Int) → lv_has ls 7 [(0, .ref u0), (1, .int u1), (2, .int u2), (3, .int u3), (4, .int v24_4)] → hw D b0 s.heap f_24 H locs → TI G 9 τ f_24 → Fr [60, 72, 73, 74, 75, 60028, 60029] τ f f_24 → iv v24_4 0 4 → W p l e rm_s_X11_guessesb s m args below meth c H locs 0 0 Q (F0 m 24 ls []) := by
    intro n24
    induction n24 with
    | zero => intro ls f_24 H locs v24_4 hm24 hl h t_24 o_24 iv24_4; exact absurd hm24 (by omega)
    | succ n24 ih24 =>
      intro ls f_24 H locs v24_4 hm24 hl h t_24 o_24 iv24_4
      have L33 : ∀ (n33 : Nat) (ls : Array Slot) (f_33 : hM) (H : Heap) (locs : List Loc) (v33_5 : Int32), 7 - v33_5.toInt < (n33 : Int) → lv_has ls 7 [(0, .ref u0), (1, .int u1), (2, .int u2), (3, .int u3), (4, .int v24_4), (5, .int v33_5)] → hw D b0 s.heap f_33 H locs → TI G 9 τ f_33 → Fr [60, 72, 73, 74, 75, 60028, 60029] τ f f_33 → iv v24_4 0 3 → iv v33_5 0 7 → W p l e rm_s_X11_guessesb s m args below meth c H locs 0 0 Q (F0 m 33 ls []) := by
        intro n33
        induction n33 with
        | zero => intro ls f_33 H locs v33_5 hm33 hl h t_33 o_33 jv33_4 iv33_5; exact absurd hm33 (by omega)
        | succ n33 ih33 =>
          intro ls f_33 H locs v33_5 hm33 hl h t_33 o_33 jv33_4 iv33_5
          have L42 : ∀ (n42 : Nat) (ls : Array Slot) (f_42 : hM) (H : Heap) (locs : List Loc) (v42_6 : Int32), 32 - v42_6.toInt < (n42 : Int) → lv_has ls 7 [(0, .ref u0), (1, .int u1), (2, .int u2), (3, .int u3), (4, .int v24_4), (5, .int v33_5), (6, .int v42_6)] → hw D b0 s.heap f_42 H locs → TI G 9 τ f_42 → Fr [60, 72, 73, 74, 75, 60028, 60029] τ f f_42 → iv v33_5 0 6 → iv v42_6 0 32 → W p l e rm_s_X11_guessesb s m args below meth c H locs 0 0 Q (F0 m 42 ls []) := by
            intro n42
            induction n42 with
            | zero => intro ls f_42 H locs v42_6 hm42 hl h t_42 o_42 jv42_5 iv42_6; exact absurd hm42 (by omega)
            | succ n42 ih42 =>
              intro ls f_42 H locs v42_6 hm42 hl h t_42 o_42 jv42_5 iv42_6
              refine lv_iload hx hb dX11_guesses_42 (lv_at hl 6 rfl) ?_
              refine lv_aload_n hx hb dX11_guesses_44 rfl (lv_at hl 0 rfl) ?_
              refine t_geti C h t_42 hu0 (by decide) wf_60 rfl fl_X11_367 dX11_guesses_45 (fun z1 iz1 => ?_)
              refine lv_icmp_ge (tgt := 88) hx hb dX11_guesses_48 (by decide) (fun c2 => ?_) (fun c2 => ?_)
              · have c3 : z1.toInt ≤ v42_6.toInt := Int32.le_iff_toInt_le.mp c2
                refine i_inc hx hb dX11_guesses_88 hl (k := 5) rfl jv42_5 rfl (lo := 1) (hi := 7) (by decide) (by decide) (lv' := fun v => [(5, .int v), (0, .ref u0), (1, .int u1), (2, .int u2), (3, .int u3), (4, .int v24_4), (6, .int v42_6)]) (fun _ => rfl) (fun z7 ls ez7 mz7 iz7 hl => ?_)
                refine lv_goto (tgt := 33) hx hb dX11_guesses_91 (by decide) ?_
                exact ih33 ls f_42 H locs z7 (show 7 - z7.toInt < _ by omega) (lv_cons hl 1 rfl (lv_cons hl 2 rfl (lv_cons hl 3 rfl (lv_cons hl 4 rfl (lv_cons hl 5 rfl (lv_cons hl 0 rfl (lv_nil hl))))))) h t_42 o_42 jv33_4 (iv_w iz7 (by decide))
              · have c4 : v42_6.toInt < z1.toInt := Int32.lt_iff_toInt_lt.mp (iv_nle c2)
                have i5 : iv v42_6 0 31 := iv_Ll c4 iv42_6 iz1 (by decide)
                have i6 : iv z1 1 32 := iv_Lr c4 iv42_6 iz1 (by decide)
                refine lv_aload_n hx hb dX11_guesses_51 rfl (lv_at hl 0 rfl) ?_
                refine t_getr (tq := 72) C h t_42 hu0 (by decide) wf_60 rfl fl_X11_54 dX11_guesses_52 (fun q8 tq8 => ?_)
                refine lv_bipush (v := 61) hx hb dX11_guesses_55 (by decide) ?_
                refine lv_iload_n hx hb dX11_guesses_57 rfl (lv_at hl 3 rfl) ?_
                refine lv_iconst (v := 1) hx hb dX11_guesses_58 (by decide) ?_
                refine i_addk hx hb dX11_guesses_59 hu3 (k := 1) rfl (lo := 1) (hi := 7) (by decide) (fun z9 ez9 mz9 iz9 => ?_)
                refine lv_iload hx hb dX11_guesses_60 (lv_at hl 4 rfl) ?_
                refine i_mulp hx hb dX11_guesses_62 iz9 jv33_4 (lo := 0) (hi := 21) (by decide) (fun z10 ez10 iz10 => ?_)
                refine lv_iload hx hb dX11_guesses_63 (lv_at hl 5 rfl) ?_
                refine i_add hx hb dX11_guesses_65 iz10 jv42_5 (lo := 0) (hi := 27) (by decide) (fun z11 ez11 mz11 iz11 => ?_)
                refine i_cmul hx hb dX11_guesses_66 (k := 61) rfl iz11 (lo := 0) (hi := 1647) (by decide) (fun z12 ez12 mz12 iz12 => ?_)
                refine lv_iload hx hb dX11_guesses_67 (lv_at hl 6 rfl) ?_
                refine i_add hx hb dX11_guesses_69 iz12 i5 (lo := 0) (hi := 1678) (by decide) (fun z13 ez13 mz13 iz13 => ?_)
                refine lv_aload_n hx hb dX11_guesses_70 rfl (lv_at hl 0 rfl) ?_
                refine lv_iload_n hx hb dX11_guesses_71 rfl (lv_at hl 1 rfl) ?_
                refine lv_iload hx hb dX11_guesses_72 (lv_at hl 4 rfl) ?_
                refine lv_iload hx hb dX11_guesses_74 (lv_at hl 5 rfl) ?_
                refine lv_iload hx hb dX11_guesses_76 (lv_at hl 6 rfl) ?_
                obtain ⟨_, r14⟩ := t_rec t_42 hu0 (by decide) wf_60
                refine k_l (r_V C h hl (As := [.int u1, .int v24_4, .int v33_5, .int v42_6]) (rest := [.int z13, .ref q8]) (s_X11_entryb l D G b0 τ f_42 t_42 u0 hu0 u1 hu1 v24_4 jv33_4 v33_5 jv42_5 v42_6 (iv_w i5 (by decide))) r14 (Cn := RX11) (T := TX11) (N := 32) rfl rfl mk_X11_entry w_1954 w_1956 w_82 w_1957 ⟨Nat.le_of_ble_eq_true rfl, Nat.le_of_ble_eq_true rfl⟩ rfl (Nat.le_of_ble_eq_true rfl) ⟨Nat.le_of_ble_eq_true rfl, Nat.le_of_ble_eq_true rfl⟩ rfl dX11_guesses_78) h (fun r15 f16 H locs p17 h => ?_)
                obtain ⟨tf16, ogf16⟩ := p17
                have egf16 := Fr.nil2 ogf16
                subst egf16
                refine t_last C h t_42 o_42 tq8 (by decide) (by decide) wf_72 fw_72 (iv_in iz13 (by decide)) dX11_guesses_81 (fun f18 H locs h tf18 of18 hq => ?_)
                refine i_inc hx hb dX11_guesses_82 hl (k := 6) rfl i5 rfl (lo := 1) (hi := 32) (by decide) (by decide) (lv' := fun v => [(6, .int v), (0, .ref u0), (1, .int u1), (2, .int u2), (3, .int u3), (4, .int v24_4), (5, .int v33_5)]) (fun _ => rfl) (fun z19 ls ez19 mz19 iz19 hl => ?_)
                refine lv_goto (tgt := 42) hx hb dX11_guesses_85 (by decide) ?_
                exact ih42 ls f18 H locs z19 (show 32 - z19.toInt < _ by omega) (lv_cons hl 1 rfl (lv_cons hl 2 rfl (lv_cons hl 3 rfl (lv_cons hl 4 rfl (lv_cons hl 5 rfl (lv_cons hl 6 rfl (lv_cons hl 0 rfl (lv_nil hl)))))))) h tf18 of18 jv42_5 (iv_w iz19 (by decide))
          refine lv_iload hx hb dX11_guesses_33 (lv_at hl 5 rfl) ?_
          refine lv_iload_n hx hb dX11_guesses_35 rfl (lv_at hl 3 rfl) ?_
          refine lv_icmp_gt (tgt := 94) hx hb dX11_guesses_36 (by decide) (fun c20 => ?_) (fun c20 => ?_)
          · have c21 : u3.toInt < v33_5.toInt := Int32.lt_iff_toInt_lt.mp c20
            have i22 : iv v33_5 1 7 := iv_Lr c21 hu3 iv33_5 (by decide)
            refine i_inc hx hb dX11_guesses_94 hl (k := 4) rfl jv33_4 rfl (lo := 1) (hi := 4) (by decide) (by decide) (lv' := fun v => [(4, .int v), (0, .ref u0), (1, .int u1), (2, .int u2), (3, .int u3), (5, .int v33_5)]) (fun _ => rfl) (fun z25 ls ez25 mz25 iz25 hl => ?_)
            refine lv_goto (tgt := 24) hx hb dX11_guesses_97 (by decide) ?_
            exact ih24 ls f_33 H locs z25 (show 4 - z25.toInt < _ by omega) (lv_cons hl 1 rfl (lv_cons hl 2 rfl (lv_cons hl 3 rfl (lv_cons hl 4 rfl (lv_cons hl 0 rfl (lv_nil hl)))))) h t_33 o_33 (iv_w iz25 (by decide))
          · have c23 : v33_5.toInt ≤ u3.toInt := Int32.le_iff_toInt_le.mp (iv_nlt c20)
            have i24 : iv v33_5 0 6 := iv_El c23 iv33_5 hu3 (by decide)
            refine lv_iconst (v := 0) hx hb dX11_guesses_39 (by decide) ?_
            refine lv_istore (lv' := [(6, .int 0), (0, .ref u0), (1, .int u1), (2, .int u2), (3, .int u3), (4, .int v24_4), (5, .int v33_5)]) hx hb dX11_guesses_40 hl (by decide) rfl (fun ls hl => ?_)
            exact L42 33 ls f_33 H locs 0 (by decide) (lv_cons hl 1 rfl (lv_cons hl 2 rfl (lv_cons hl 3 rfl (lv_cons hl 4 rfl (lv_cons hl 5 rfl (lv_cons hl 6 rfl (lv_cons hl 0 rfl (lv_nil hl)))))))) h t_33 o_33 i24 ⟨by decide, by decide⟩
      refine lv_iload hx hb dX11_guesses_24 (lv_at hl 4 rfl) ?_
      refine lv_iload_n hx hb dX11_guesses_26 rfl (lv_at hl 2 rfl) ?_
      refine lv_icmp_gt (tgt := 100) hx hb dX11_guesses_27 (by decide) (fun c26 => ?_) (fun c26 => ?_)
      · have c27 : u2.toInt < v24_4.toInt := Int32.lt_iff_toInt_lt.mp c26
        have i28 : iv v24_4 2 4 := iv_Lr c27 hu2 iv24_4 (by decide)
        refine lv_aload_n hx hb dX11_guesses_100 rfl (lv_at hl 0 rfl) ?_
        obtain ⟨_, r31⟩ := t_rec t_24 hu0 (by decide) wf_60
        refine k_i (r_V C h hl (As := []) (rest := []) (s_X11_hangs l D G b0 τ f_24 t_24 u0 hu0) r31 (Cn := RX11) (T := TX11) (N := 32) rfl rfl mk_X11_hangs w_1961 w_1963 w_83 w_1964 ⟨Nat.le_of_ble_eq_true rfl, Nat.le_of_ble_eq_true rfl⟩ rfl (Nat.le_of_ble_eq_true rfl) ⟨Nat.le_of_ble_eq_true rfl, Nat.le_of_ble_eq_true rfl⟩ rfl dX11_guesses_101) h (fun r32 f33 H locs p34 h => ?_)
        obtain ⟨ir32, tf33, ogf33⟩ := p34
        have of33 : Fr [60, 72, 73, 74, 75, 60028, 60029] τ f f33 := Fr.tr o_24 ogf33 (by decide) (by decide)
        exact u_zret C h hr hQ ir32 (⟨ir32, tf33, of33⟩) (Nat.le_of_ble_eq_true rfl) (Nat.le_of_ble_eq_true rfl) dX11_guesses_104
      · have c29 : v24_4.toInt ≤ u2.toInt := Int32.le_iff_toInt_le.mp (iv_nlt c26)
        have i30 : iv v24_4 0 3 := iv_El c29 iv24_4 hu2 (by decide)
        refine lv_iconst (v := 0) hx hb dX11_guesses_30 (by decide) ?_
        refine lv_istore (lv' := [(5, .int 0), (0, .ref u0), (1, .int u1), (2, .int u2), (3, .int u3), (4, .int v24_4)]) hx hb dX11_guesses_31 hl (by decide) rfl (fun ls hl => ?_)
        exact L33 8 ls f_24 H locs 0 (by decide) (lv_cons hl 1 rfl (lv_cons hl 2 rfl (lv_cons hl 3 rfl (lv_cons hl 4 rfl (lv_cons hl 5 rfl (lv_cons hl 0 rfl (lv_nil hl))))))) h t_24 o_24 i30 ⟨by decide, by decide⟩
  refine lv_aload_n hx hb dX11_guesses_0 rfl (lv_at hl 0 rfl) ?_
  refine lv_iload_n hx hb dX11_guesses_1 rfl (lv_at hl 2 rfl) ?_
  refine lv_iconst (v := 1) hx hb dX11_guesses_2 (by decide) ?_
  refine i_addk hx hb dX11_guesses_3 hu2 (k := 1) rfl (lo := 2) (hi := 4) (by decide) (fun z35 ez35 mz35 iz35 => ?_)
  refine lv_iload_n hx hb dX11_guesses_4 rfl (lv_at hl 3 rfl) ?_
  refine lv_iconst (v := 1) hx hb dX11_guesses_5 (by decide) ?_
  refine i_addk hx hb dX11_guesses_6 hu3 (k := 1) rfl (lo := 1) (hi := 7) (by decide) (fun z36 ez36 mz36 iz36 => ?_)
  refine i_mulp hx hb dX11_guesses_7 iz35 iz36 (lo := 2) (hi := 28) (by decide) (fun z37 ez37 iz37 => ?_)
  refine t_put C h t o hu0 (by decide) (by decide) (by decide) wf_60 fw_60 (k := 27) rfl flw_X11_370 (Or.inr ⟨_, _, _, rfl, rfl⟩) (v := .int z37) rfl rfl ⟨_, rfl, (iv_w iz37 (by decide))⟩ dX11_guesses_8 (fun f38 H locs h tf38 of38 hq ha_ hn_ hk_ => ?_)
  have k39 := ha_
  refine lv_aload_n hx hb dX11_guesses_11 rfl (lv_at hl 0 rfl) ?_
  refine lv_aload_n hx hb dX11_guesses_12 rfl (lv_at hl 0 rfl) ?_
  refine t_geti C h tf38 hu0 (by decide) wf_60 rfl fl_X11_370 dX11_guesses_13 (fun z40 iz40 => ?_)
  refine lv_iconst (v := 4) hx hb dX11_guesses_16 (by decide) ?_
  refine i_addk hx hb dX11_guesses_17 iz40 (k := 4) rfl (lo := 4) (hi := 32) (by decide) (fun z41 ez41 mz41 iz41 => ?_)
  refine t_put C h tf38 of38 hu0 (by decide) (by decide) (by decide) wf_60 fw_60 (k := 28) rfl flw_X11_367 (Or.inr ⟨_, _, _, rfl, rfl⟩) (v := .int z41) rfl rfl ⟨_, rfl, (iv_w iz41 (by decide))⟩ dX11_guesses_18 (fun f42 H locs h tf42 of42 hq ha_ hn_ hk_ => ?_)
  have k43 := ha_
  refine lv_iconst (v := 0) hx hb dX11_guesses_21 (by decide) ?_
  refine lv_istore (lv' := [(4, .int 0), (0, .ref u0), (1, .int u1), (2, .int u2), (3, .int u3)]) hx hb dX11_guesses_22 hl (by decide) rfl (fun ls hl => ?_)
  exact L24 5 ls f42 H locs 0 (by decide) (lv_cons hl 1 rfl (lv_cons hl 2 rfl (lv_cons hl 3 rfl (lv_cons hl 4 rfl (lv_cons hl 0 rfl (lv_nil hl)))))) h tf42 of42 ⟨by decide, by decide⟩
abbrev rm_s_X11_failsAtb : Room := { frames := 1, cells := 0, slots := 0, locals := 24 }
set_option maxRecDepth 100000 in
set_option maxHeartbeats 4000000 in
theorem s_X11_failsAtb (l : Launch) (D : va_G) (G : Nat → Nat) (b0 : Nat) (τ : Nat → Nat) (f : hM) (t : TI G 9 τ f) (u0 : Nat) (hu0 : τ u0 = 60) (u1 : Int32) (hu1 : iv u1 1 1) (u2 : Int32) (hu2 : iv u2 1 3) (u3 : Int32) (hu3 : iv u3 0 6) : mI l yX11_failsAt cX11_failsAt 9 (.int) rm_s_X11_failsAtb D G b0 f [.ref u0, .int u1, .int u2, .int u3] (fun r f1 => iv r (-1) 60 ∧ TI G 9 τ f1 ∧ Fr [] τ f f1) := by
  refine met2 (own := RX11) (by decide) rfl (Nat.le_of_ble_eq_true rfl) ?_
  intro p e s m args below meth c ls Q hQ C hr hini hl h
  have hl : lv_has ls 9 [(0, .ref u0), (1, .int u1), (2, .int u2), (3, .int u3)] := hl
  obtain ⟨hx, hb, hml, hown, hts, hE0, hlk⟩ := id C
  have o := Fr.rf [] τ f
  have L3 : ∀ (n3 : Nat) (ls : Array Slot) (f_3 : hM) (H : Heap) (locs : List Loc) (v3_4 : Int32), 61 - v3_4.toInt < (n3 : Int) → lv_has ls 9 [(0, .ref u0), (1, .int u1), (2, .int u2), (3, .int u3), (4, .int v3_4)] → hw D b0 s.heap f_3 H locs → TI G 9 τ f_3 → Fr [] τ f f_3 → iv v3_4 0 61 → W p l e rm_s_X11_failsAtb s m args below meth c H locs 0 0 Q (F0 m 3 ls []) := by
    intro n3
    induction n3 with
    | zero => intro ls f_3 H locs v3_4 hm3 hl h t_3 o_3 iv3_4; exact absurd hm3 (by omega)
    | succ n3 ih3 =>
      intro ls f_3 H locs v3_4 hm3 hl h t_3 o_3 iv3_4
      have L27 : ∀ (n27 : Nat) (ls : Array Slot) (f_27 : hM) (H : Heap) (locs : List Loc) (v27_5 : Int64) (v27_7 : Int32), 4 - v27_7.toInt < (n27 : Int) → lv_has ls 9 [(0, .ref u0), (1, .int u1), (2, .int u2), (3, .int u3), (4, .int v3_4), (5, .long v27_5), (7, .int v27_7)] → hw D b0 s.heap f_27 H locs → TI G 9 τ f_27 → Fr [] τ f f_27 → iv v3_4 0 60 → iv v27_7 0 4 → W p l e rm_s_X11_failsAtb s m args below meth c H locs 0 0 Q (F0 m 27 ls []) := by
        intro n27
        induction n27 with
        | zero => intro ls f_27 H locs v27_5 v27_7 hm27 hl h t_27 o_27 jv27_4 iv27_7; exact absurd hm27 (by omega)
        | succ n27 ih27 =>
          intro ls f_27 H locs v27_5 v27_7 hm27 hl h t_27 o_27 jv27_4 iv27_7
          have L36 : ∀ (n36 : Nat) (ls : Array Slot) (f_36 : hM) (H : Heap) (locs : List Loc) (v36_5 : Int64) (v36_8 : Int32), 7 - v36_8.toInt < (n36 : Int) → lv_has ls 9 [(0, .ref u0), (1, .int u1), (2, .int u2), (3, .int u3), (4, .int v3_4), (5, .long v36_5), (7, .int v27_7), (8, .int v36_8)] → hw D b0 s.heap f_36 H locs → TI G 9 τ f_36 → Fr [] τ f f_36 → iv v27_7 0 3 → iv v36_8 0 7 → W p l e rm_s_X11_failsAtb s m args below meth c H locs 0 0 Q (F0 m 36 ls []) := by
            intro n36
            induction n36 with
            | zero => intro ls f_36 H locs v36_5 v36_8 hm36 hl h t_36 o_36 jv36_7 iv36_8; exact absurd hm36 (by omega)
            | succ n36 ih36 =>
              intro ls f_36 H locs v36_5 v36_8 hm36 hl h t_36 o_36 jv36_7 iv36_8
              refine lv_iload hx hb dX11_failsAt_36 (lv_at hl 7 rfl) ?_
              refine lv_iload_n hx hb dX11_failsAt_38 rfl (lv_at hl 3 rfl) ?_
              refine lv_icmp_gt (tgt := 83) hx hb dX11_failsAt_39 (by decide) (fun c1 => ?_) (fun c1 => ?_)
              · have c2 : u3.toInt < v36_8.toInt := Int32.lt_iff_toInt_lt.mp c1
                have i3 : iv v36_8 1 7 := iv_Lr c2 hu3 iv36_8 (by decide)
                refine i_inc hx hb dX11_failsAt_83 hl (k := 6) rfl jv36_7 rfl (lo := 1) (hi := 4) (by decide) (by decide) (lv' := fun v => [(7, .int v), (0, .ref u0), (1, .int u1), (2, .int u2), (3, .int u3), (4, .int v3_4), (5, .long v36_5), (8, .int v36_8)]) (fun _ => rfl) (fun z6 ls ez6 mz6 iz6 hl => ?_)
                refine lv_goto (tgt := 27) hx hb dX11_failsAt_86 (by decide) ?_
                exact ih27 ls f_36 H locs v36_5 z6 (show 4 - z6.toInt < _ by omega) (lv_cons hl 1 rfl (lv_cons hl 2 rfl (lv_cons hl 3 rfl (lv_cons hl 4 rfl (lv_cons hl 5 rfl (lv_cons hl 6 rfl (lv_cons hl 0 rfl (lv_nil hl)))))))) h t_36 o_36 jv27_4 (iv_w iz6 (by decide))
              · have c4 : v36_8.toInt ≤ u3.toInt := Int32.le_iff_toInt_le.mp (iv_nlt c1)
                have i5 : iv v36_8 0 6 := iv_El c4 iv36_8 hu3 (by decide)
                refine lv_lload hx hb dX11_failsAt_42 (lv_at hl 5 rfl) ?_
                refine lv_aload_n hx hb dX11_failsAt_44 rfl (lv_at hl 0 rfl) ?_
                refine t_getr (tq := 74) C h t_36 hu0 (by decide) wf_60 rfl fl_X11_63 dX11_failsAt_45 (fun q7 tq7 => ?_)
                refine lv_iload_n hx hb dX11_failsAt_48 rfl (lv_at hl 3 rfl) ?_
                refine lv_iconst (v := 1) hx hb dX11_failsAt_49 (by decide) ?_
                refine i_addk hx hb dX11_failsAt_50 hu3 (k := 1) rfl (lo := 1) (hi := 7) (by decide) (fun z8 ez8 mz8 iz8 => ?_)
                refine lv_iload hx hb dX11_failsAt_51 (lv_at hl 6 rfl) ?_
                refine i_mulp hx hb dX11_failsAt_53 iz8 jv36_7 (lo := 0) (hi := 21) (by decide) (fun z9 ez9 iz9 => ?_)
                refine lv_iload hx hb dX11_failsAt_54 (lv_at hl 7 rfl) ?_
                refine i_add hx hb dX11_failsAt_56 iz9 i5 (lo := 0) (hi := 27) (by decide) (fun z10 ez10 mz10 iz10 => ?_)
                refine t_lald C h t_36 tq7 (by decide) wf_74 (iv_in iz10 (by decide)) dX11_failsAt_57 (fun w11 => ?_)
                refine lv_aload_n hx hb dX11_failsAt_58 rfl (lv_at hl 0 rfl) ?_
                refine lv_iload_n hx hb dX11_failsAt_59 rfl (lv_at hl 1 rfl) ?_
                refine lv_iload hx hb dX11_failsAt_60 (lv_at hl 6 rfl) ?_
                refine lv_iload hx hb dX11_failsAt_62 (lv_at hl 7 rfl) ?_
                refine lv_iload hx hb dX11_failsAt_64 (lv_at hl 4 rfl) ?_
                obtain ⟨_, r12⟩ := t_rec t_36 hu0 (by decide) wf_60
                refine k_l (r_V C h hl (As := [.int u1, .int v27_7, .int v36_8, .int v3_4]) (rest := [.long w11, .long v36_5]) (s_X11_entryb l D G b0 τ f_36 t_36 u0 hu0 u1 hu1 v27_7 jv36_7 v36_8 i5 v3_4 jv27_4) r12 (Cn := RX11) (T := TX11) (N := 32) rfl rfl mk_X11_entry w_1954 w_1956 w_82 w_1957 ⟨Nat.le_of_ble_eq_true rfl, Nat.le_of_ble_eq_true rfl⟩ rfl (Nat.le_of_ble_eq_true rfl) ⟨Nat.le_of_ble_eq_true rfl, Nat.le_of_ble_eq_true rfl⟩ rfl dX11_failsAt_66) h (fun r13 f14 H locs p15 h => ?_)
                obtain ⟨tf14, ogf14⟩ := p15
                have egf14 := Fr.nil2 ogf14
                subst egf14
                refine lv_lmul hx hb dX11_failsAt_69 (lv_topl (fun w16 ew16 => ?_))
                refine lv_ldc2 (v := 1000003) hx hb hown (hts _ w_1719) dX11_failsAt_70 ?_
                refine lv_lrem hx hb dX11_failsAt_73 (by decide) (i_topl (lrem_iv (k := 1000003) rfl (by decide) (lo := -1000002) (hi := 1000002) (by decide)) (fun w17 ew17 iw17 => ?_))
                refine lv_ladd hx hb dX11_failsAt_74 (lv_topl (fun w18 ew18 => ?_))
                refine lv_lstore (lv' := [(5, .long w18), (0, .ref u0), (1, .int u1), (2, .int u2), (3, .int u3), (4, .int v3_4), (7, .int v27_7), (8, .int v36_8)]) hx hb dX11_failsAt_75 hl (by decide) rfl (fun ls hl => ?_)
                refine i_inc hx hb dX11_failsAt_77 hl (k := 7) rfl i5 rfl (lo := 1) (hi := 7) (by decide) (by decide) (lv' := fun v => [(8, .int v), (5, .long w18), (0, .ref u0), (1, .int u1), (2, .int u2), (3, .int u3), (4, .int v3_4), (7, .int v27_7)]) (fun _ => rfl) (fun z19 ls ez19 mz19 iz19 hl => ?_)
                refine lv_goto (tgt := 36) hx hb dX11_failsAt_80 (by decide) ?_
                exact ih36 ls f_36 H locs w18 z19 (show 7 - z19.toInt < _ by omega) (lv_cons hl 2 rfl (lv_cons hl 3 rfl (lv_cons hl 4 rfl (lv_cons hl 5 rfl (lv_cons hl 6 rfl (lv_cons hl 1 rfl (lv_cons hl 7 rfl (lv_cons hl 0 rfl (lv_nil hl))))))))) h t_36 o_36 jv36_7 (iv_w iz19 (by decide))
          refine lv_iload hx hb dX11_failsAt_27 (lv_at hl 6 rfl) ?_
          refine lv_iload_n hx hb dX11_failsAt_29 rfl (lv_at hl 2 rfl) ?_
          refine lv_icmp_gt (tgt := 89) hx hb dX11_failsAt_30 (by decide) (fun c20 => ?_) (fun c20 => ?_)
          · have c21 : u2.toInt < v27_7.toInt := Int32.lt_iff_toInt_lt.mp c20
            have i22 : iv v27_7 2 4 := iv_Lr c21 hu2 iv27_7 (by decide)
            refine lv_lload hx hb dX11_failsAt_89 (lv_at hl 5 rfl) ?_
            refine lv_ldc2 (v := 1000003) hx hb hown (hts _ w_1719) dX11_failsAt_91 ?_
            refine lv_lrem hx hb dX11_failsAt_94 (by decide) (i_topl (lrem_iv (k := 1000003) rfl (by decide) (lo := -1000002) (hi := 1000002) (by decide)) (fun w25 ew25 iw25 => ?_))
            refine lv_lconst (v := 0) hx hb dX11_failsAt_95 (by decide) ?_
            refine W.lcmp hx hb dX11_failsAt_96 (i_topc (fun z26 ez26 mz26 iz26 => ?_))
            refine lv_if_eq (tgt := 103) hx hb dX11_failsAt_97 (by decide) (fun c27 => ?_) (fun c27 => ?_)
            · have c28 : z26.toInt = 0 := congrArg Int32.toInt c27
              have i29 : iv z26 0 0 := iv_Q c28 iz26 (iv_k (x := 0) (k := 0) rfl) (by decide)
              refine i_inc hx hb dX11_failsAt_103 hl (k := 4) rfl jv27_4 rfl (lo := 1) (hi := 61) (by decide) (by decide) (lv' := fun v => [(4, .int v), (0, .ref u0), (1, .int u1), (2, .int u2), (3, .int u3), (5, .long v27_5), (7, .int v27_7)]) (fun _ => rfl) (fun z31 ls ez31 mz31 iz31 hl => ?_)
              refine lv_goto (tgt := 3) hx hb dX11_failsAt_106 (by decide) ?_
              exact ih3 ls f_27 H locs z31 (show 61 - z31.toInt < _ by omega) (lv_cons hl 1 rfl (lv_cons hl 2 rfl (lv_cons hl 3 rfl (lv_cons hl 4 rfl (lv_cons hl 0 rfl (lv_nil hl)))))) h t_27 o_27 (iv_w iz31 (by decide))
            · have c30 : z26.toInt ≠ 0 := fun z_ => c27 (Int32.toInt_inj.mp z_)
              refine lv_iload hx hb dX11_failsAt_100 (lv_at hl 4 rfl) ?_
              exact u_iret C h hr hQ (⟨(iv_w jv27_4 (by decide)), t_27, o_27⟩) (Nat.le_of_ble_eq_true rfl) (Nat.le_of_ble_eq_true rfl) dX11_failsAt_102
          · have c23 : v27_7.toInt ≤ u2.toInt := Int32.le_iff_toInt_le.mp (iv_nlt c20)
            have i24 : iv v27_7 0 3 := iv_El c23 iv27_7 hu2 (by decide)
            refine lv_iconst (v := 0) hx hb dX11_failsAt_33 (by decide) ?_
            refine lv_istore (lv' := [(8, .int 0), (0, .ref u0), (1, .int u1), (2, .int u2), (3, .int u3), (4, .int v3_4), (5, .long v27_5), (7, .int v27_7)]) hx hb dX11_failsAt_34 hl (by decide) rfl (fun ls hl => ?_)
            exact L36 8 ls f_27 H locs v27_5 0 (by decide) (lv_cons hl 1 rfl (lv_cons hl 2 rfl (lv_cons hl 3 rfl (lv_cons hl 4 rfl (lv_cons hl 5 rfl (lv_cons hl 6 rfl (lv_cons hl 7 rfl (lv_cons hl 0 rfl (lv_nil hl))))))))) h t_27 o_27 i24 ⟨by decide, by decide⟩
      refine lv_iload hx hb dX11_failsAt_3 (lv_at hl 4 rfl) ?_
      refine lv_iload_n hx hb dX11_failsAt_5 rfl (lv_at hl 1 rfl) ?_
      refine lv_if_ne (tgt := 16) hx hb dX11_failsAt_6 (by decide) (fun c32 => ?_) (fun c32 => ?_)
      · have c33 : u1.toInt ≠ 0 := fun z_ => c32 (Int32.toInt_inj.mp z_)
        refine lv_bipush (v := 60) hx hb dX11_failsAt_16 (by decide) ?_
        refine lv_icmp_gt (tgt := 109) hx hb dX11_failsAt_18 (by decide) (fun c35 => ?_) (fun c35 => ?_)
        · have c36 : 60 < v3_4.toInt := Int32.lt_iff_toInt_lt.mp c35
          have i37 : iv v3_4 61 61 := iv_Lr c36 (iv_k (x := 60) (k := 60) rfl) iv3_4 (by decide)
          refine lv_iconst (v := -1) hx hb dX11_failsAt_109 (by decide) ?_
          exact u_iret C h hr hQ (⟨⟨by decide, by decide⟩, t_3, o_3⟩) (Nat.le_of_ble_eq_true rfl) (Nat.le_of_ble_eq_true rfl) dX11_failsAt_110
        · have c38 : v3_4.toInt ≤ 60 := Int32.le_iff_toInt_le.mp (iv_nlt c35)
          have i39 : iv v3_4 0 60 := iv_El c38 iv3_4 (iv_k (x := 60) (k := 60) rfl) (by decide)
          refine lv_lconst (v := 0) hx hb dX11_failsAt_21 (by decide) ?_
          refine lv_lstore (lv' := [(5, .long 0), (0, .ref u0), (1, .int u1), (2, .int u2), (3, .int u3), (4, .int v3_4)]) hx hb dX11_failsAt_22 hl (by decide) rfl (fun ls hl => ?_)
          refine lv_iconst (v := 0) hx hb dX11_failsAt_24 (by decide) ?_
          refine lv_istore (lv' := [(7, .int 0), (5, .long 0), (0, .ref u0), (1, .int u1), (2, .int u2), (3, .int u3), (4, .int v3_4)]) hx hb dX11_failsAt_25 hl (by decide) rfl (fun ls hl => ?_)
          exact L27 5 ls f_3 H locs 0 0 (by decide) (lv_cons hl 2 rfl (lv_cons hl 3 rfl (lv_cons hl 4 rfl (lv_cons hl 5 rfl (lv_cons hl 6 rfl (lv_cons hl 1 rfl (lv_cons hl 0 rfl (lv_nil hl)))))))) h t_3 o_3 i39 ⟨by decide, by decide⟩
      · have c34 : u1.toInt = 0 := congrArg Int32.toInt c32
        exact (iv_cq_ c34 hu1 (iv_k (x := 0) (k := 0) rfl) (by decide)).elim
  refine lv_iconst (v := 0) hx hb dX11_failsAt_0 (by decide) ?_
  refine lv_istore (lv' := [(4, .int 0), (0, .ref u0), (1, .int u1), (2, .int u2), (3, .int u3)]) hx hb dX11_failsAt_1 hl (by decide) rfl (fun ls hl => ?_)
  exact L3 62 ls f s.heap [] 0 (by decide) (lv_cons hl 1 rfl (lv_cons hl 2 rfl (lv_cons hl 3 rfl (lv_cons hl 4 rfl (lv_cons hl 0 rfl (lv_nil hl)))))) h t o ⟨by decide, by decide⟩
abbrev rm_s_X11_isGuessb : Room := { frames := 2, cells := 0, slots := 0, locals := 46 }
set_option maxRecDepth 100000 in
set_option maxHeartbeats 4000000 in
theorem s_X11_isGuessb (l : Launch) (D : va_G) (G : Nat → Nat) (b0 : Nat) (τ : Nat → Nat) (f : hM) (t : TI G 9 τ f) (u0 : Nat) (hu0 : τ u0 = 60) (u1 : Int32) (hu1 : iv u1 (-2147483648) 2147483647) (u2 : Int32) (hu2 : iv u2 (-2147483648) 2147483647) (u3 : Int32) (hu3 : iv u3 1 1) (u4 : Int32) (hu4 : iv u4 (-2147483648) 2147483647) (u5 : Int32) (hu5 : iv u5 (-2147483648) 2147483647) : mI l yX11_isGuess cX11_isGuess 6 (.boolean) rm_s_X11_isGuessb D G b0 f [.ref u0, .int u1, .int u2, .int u3, .int u4, .int u5] (fun r f1 => iv r 0 1 ∧ TI G 9 τ f1 ∧ Fr [] τ f f1 ∧ (r.toInt ≠ 0 → iv u1 0 7 ∧ iv u2 0 4 ∧ iv u4 1 3 ∧ iv u5 0 6)) := by
  refine met2 (own := RX11) (by decide) rfl (Nat.le_of_ble_eq_true rfl) ?_
  intro p e s m args below meth c ls Q hQ C hr hini hl h
  have hl : lv_has ls 6 [(0, .ref u0), (1, .int u1), (2, .int u2), (3, .int u3), (4, .int u4), (5, .int u5)] := hl
  obtain ⟨hx, hb, hml, hown, hts, hE0, hlk⟩ := id C
  have o := Fr.rf [] τ f
  refine lv_aload_n hx hb dX11_isGuess_0 rfl (lv_at hl 0 rfl) ?_
  refine lv_iload_n hx hb dX11_isGuess_1 rfl (lv_at hl 1 rfl) ?_
  obtain ⟨_, r1⟩ := t_rec t hu0 (by decide) wf_60
  refine k_i (r_V C h hl (As := [.int u1]) (rest := []) (s_X11_isSet l D G b0 τ f t u0 hu0 u1 hu1) r1 (Cn := RX11) (T := TX11) (N := 32) rfl rfl mk_X11_isSet w_1620 w_1622 w_51 w_1623 ⟨Nat.le_of_ble_eq_true rfl, Nat.le_of_ble_eq_true rfl⟩ rfl (Nat.le_of_ble_eq_true rfl) ⟨Nat.le_of_ble_eq_true rfl, Nat.le_of_ble_eq_true rfl⟩ rfl dX11_isGuess_2) h (fun r2 f3 H locs p4 h => ?_)
  obtain ⟨ir2, tf3, ogf3, cnr2⟩ := p4
  have egf3 := Fr.nil2 ogf3
  subst egf3
  refine lv_if_eq (tgt := 70) hx hb dX11_isGuess_5 (by decide) (fun c5 => ?_) (fun c5 => ?_)
  · have c6 : r2.toInt = 0 := congrArg Int32.toInt c5
    have i7 : iv r2 0 0 := iv_Q c6 ir2 (iv_k (x := 0) (k := 0) rfl) (by decide)
    refine lv_iconst (v := 0) hx hb dX11_isGuess_70 (by decide) ?_
    exact u_zret C h hr hQ ⟨by decide, by decide⟩ (⟨⟨by decide, by decide⟩, t, o, (fun h_ => absurd h_ (by decide))⟩) (Nat.le_of_ble_eq_true rfl) (Nat.le_of_ble_eq_true rfl) dX11_isGuess_71
  · have c8 : r2.toInt ≠ 0 := fun z_ => c5 (Int32.toInt_inj.mp z_)
    have i9 : iv r2 1 1 := iv_Nl c8 ir2 (by decide)
    have i10 := cnr2 c8
    refine lv_iload_n hx hb dX11_isGuess_8 rfl (lv_at hl 2 rfl) ?_
    refine lv_i2l hx hb dX11_isGuess_9 rfl (i_topL hu2 (fun w11 ew11 mw11 iw11 => ?_))
    refine lv_lconst (v := 0) hx hb dX11_isGuess_10 (by decide) ?_
    refine lv_ldc2 (v := 4) hx hb hown (hts _ w_1730) dX11_isGuess_11 ?_
    refine k_i (r_S C h hl (As := [.long w11, .long 0, .long 4]) (rest := []) (s_X11_isIn l D G b0 τ f t w11 0 4) mk_X11_isIn w_1624 w_1625 w_1626 ⟨Nat.le_of_ble_eq_true rfl, Nat.le_of_ble_eq_true rfl⟩ rfl (Nat.le_of_ble_eq_true rfl) ⟨Nat.le_of_ble_eq_true rfl, Nat.le_of_ble_eq_true rfl⟩ rfl dX11_isGuess_14) h (fun r12 f13 H locs p14 h => ?_)
    have n15 : (0 : Int64).toInt = 0 := rfl
    have n16 : (4 : Int64).toInt = 4 := rfl
    obtain ⟨ir12, tf13, ogf13, cnr12⟩ := p14
    have egf13 := Fr.nil2 ogf13
    subst egf13
    refine lv_if_eq (tgt := 70) hx hb dX11_isGuess_17 (by decide) (fun c17 => ?_) (fun c17 => ?_)
    · have c18 : r12.toInt = 0 := congrArg Int32.toInt c17
      have i19 : iv r12 0 0 := iv_Q c18 ir12 (iv_k (x := 0) (k := 0) rfl) (by decide)
      refine lv_iconst (v := 0) hx hb dX11_isGuess_70 (by decide) ?_
      exact u_zret C h hr hQ ⟨by decide, by decide⟩ (⟨⟨by decide, by decide⟩, t, o, (fun h_ => absurd h_ (by decide))⟩) (Nat.le_of_ble_eq_true rfl) (Nat.le_of_ble_eq_true rfl) dX11_isGuess_71
    · have c20 : r12.toInt ≠ 0 := fun z_ => c17 (Int32.toInt_inj.mp z_)
      have i21 : iv r12 1 1 := iv_Nl c20 ir12 (by decide)
      obtain ⟨i22, i23⟩ := cnr12 c20
      have i24 : iv u2 0 4 := ⟨by omega, by omega⟩
      refine lv_iload hx hb dX11_isGuess_20 (lv_at hl 4 rfl) ?_
      refine lv_i2l hx hb dX11_isGuess_22 rfl (i_topL hu4 (fun w25 ew25 mw25 iw25 => ?_))
      refine lv_lconst (v := 1) hx hb dX11_isGuess_23 (by decide) ?_
      refine lv_iload_n hx hb dX11_isGuess_24 rfl (lv_at hl 3 rfl) ?_
      refine lv_if_ne (tgt := 34) hx hb dX11_isGuess_25 (by decide) (fun c26 => ?_) (fun c26 => ?_)
      · have c27 : u3.toInt ≠ 0 := fun z_ => c26 (Int32.toInt_inj.mp z_)
        refine lv_ldc2 (v := 3) hx hb hown (hts _ w_1940) dX11_isGuess_34 ?_
        refine k_i (r_S C h hl (As := [.long w25, .long 1, .long 3]) (rest := []) (s_X11_isIn l D G b0 τ f t w25 1 3) mk_X11_isIn w_1624 w_1625 w_1626 ⟨Nat.le_of_ble_eq_true rfl, Nat.le_of_ble_eq_true rfl⟩ rfl (Nat.le_of_ble_eq_true rfl) ⟨Nat.le_of_ble_eq_true rfl, Nat.le_of_ble_eq_true rfl⟩ rfl dX11_isGuess_37) h (fun r29 f30 H locs p31 h => ?_)
        have n32 : (1 : Int64).toInt = 1 := rfl
        have n33 : (3 : Int64).toInt = 3 := rfl
        obtain ⟨ir29, tf30, ogf30, cnr29⟩ := p31
        have egf30 := Fr.nil2 ogf30
        subst egf30
        refine lv_if_eq (tgt := 70) hx hb dX11_isGuess_40 (by decide) (fun c34 => ?_) (fun c34 => ?_)
        · have c35 : r29.toInt = 0 := congrArg Int32.toInt c34
          have i36 : iv r29 0 0 := iv_Q c35 ir29 (iv_k (x := 0) (k := 0) rfl) (by decide)
          refine lv_iconst (v := 0) hx hb dX11_isGuess_70 (by decide) ?_
          exact u_zret C h hr hQ ⟨by decide, by decide⟩ (⟨⟨by decide, by decide⟩, t, o, (fun h_ => absurd h_ (by decide))⟩) (Nat.le_of_ble_eq_true rfl) (Nat.le_of_ble_eq_true rfl) dX11_isGuess_71
        · have c37 : r29.toInt ≠ 0 := fun z_ => c34 (Int32.toInt_inj.mp z_)
          have i38 : iv r29 1 1 := iv_Nl c37 ir29 (by decide)
          obtain ⟨i39, i40⟩ := cnr29 c37
          have i41 : iv u4 1 3 := ⟨by omega, by omega⟩
          refine lv_iload hx hb dX11_isGuess_43 (lv_at hl 5 rfl) ?_
          refine lv_i2l hx hb dX11_isGuess_45 rfl (i_topL hu5 (fun w42 ew42 mw42 iw42 => ?_))
          refine lv_lconst (v := 0) hx hb dX11_isGuess_46 (by decide) ?_
          refine lv_iload_n hx hb dX11_isGuess_47 rfl (lv_at hl 3 rfl) ?_
          refine lv_if_ne (tgt := 57) hx hb dX11_isGuess_48 (by decide) (fun c43 => ?_) (fun c43 => ?_)
          · have c44 : u3.toInt ≠ 0 := fun z_ => c43 (Int32.toInt_inj.mp z_)
            refine lv_ldc2 (v := 6) hx hb hown (hts _ w_1941) dX11_isGuess_57 ?_
            refine k_i (r_S C h hl (As := [.long w42, .long 0, .long 6]) (rest := []) (s_X11_isIn l D G b0 τ f t w42 0 6) mk_X11_isIn w_1624 w_1625 w_1626 ⟨Nat.le_of_ble_eq_true rfl, Nat.le_of_ble_eq_true rfl⟩ rfl (Nat.le_of_ble_eq_true rfl) ⟨Nat.le_of_ble_eq_true rfl, Nat.le_of_ble_eq_true rfl⟩ rfl dX11_isGuess_60) h (fun r46 f47 H locs p48 h => ?_)
            have n49 : (0 : Int64).toInt = 0 := rfl
            have n50 : (6 : Int64).toInt = 6 := rfl
            obtain ⟨ir46, tf47, ogf47, cnr46⟩ := p48
            have egf47 := Fr.nil2 ogf47
            subst egf47
            refine lv_if_eq (tgt := 70) hx hb dX11_isGuess_63 (by decide) (fun c51 => ?_) (fun c51 => ?_)
            · have c52 : r46.toInt = 0 := congrArg Int32.toInt c51
              have i53 : iv r46 0 0 := iv_Q c52 ir46 (iv_k (x := 0) (k := 0) rfl) (by decide)
              refine lv_iconst (v := 0) hx hb dX11_isGuess_70 (by decide) ?_
              exact u_zret C h hr hQ ⟨by decide, by decide⟩ (⟨⟨by decide, by decide⟩, t, o, (fun h_ => absurd h_ (by decide))⟩) (Nat.le_of_ble_eq_true rfl) (Nat.le_of_ble_eq_true rfl) dX11_isGuess_71
            · have c54 : r46.toInt ≠ 0 := fun z_ => c51 (Int32.toInt_inj.mp z_)
              have i55 : iv r46 1 1 := iv_Nl c54 ir46 (by decide)
              obtain ⟨i56, i57⟩ := cnr46 c54
              have i58 : iv u5 0 6 := ⟨by omega, by omega⟩
              refine lv_iconst (v := 1) hx hb dX11_isGuess_66 (by decide) ?_
              refine lv_goto (tgt := 71) hx hb dX11_isGuess_67 (by decide) ?_
              exact u_zret C h hr hQ ⟨by decide, by decide⟩ (⟨⟨by decide, by decide⟩, t, o, (fun _ => ⟨i10, i24, i41, i58⟩)⟩) (Nat.le_of_ble_eq_true rfl) (Nat.le_of_ble_eq_true rfl) dX11_isGuess_71
          · have c45 : u3.toInt = 0 := congrArg Int32.toInt c43
            exact (iv_cq_ c45 hu3 (iv_k (x := 0) (k := 0) rfl) (by decide)).elim
      · have c28 : u3.toInt = 0 := congrArg Int32.toInt c26
        exact (iv_cq_ c28 hu3 (iv_k (x := 0) (k := 0) rfl) (by decide)).elim
abbrev rm_s_X11_numberOfb : Room := { frames := 5, cells := 0, slots := 0, locals := 122 }
set_option maxRecDepth 100000 in
set_option maxHeartbeats 4000000 in
theorem s_X11_numberOfb (l : Launch) (D : va_G) (G : Nat → Nat) (b0 : Nat) (τ : Nat → Nat) (f : hM) (t : TI G 9 τ f) (u0 : Nat) (hu0 : τ u0 = 60) (u1 : Int32) (hu1 : iv u1 (-2147483648) 2147483647) (u2 : Int32) (hu2 : iv u2 (-2147483648) 2147483647) (u3 : Int32) (hu3 : iv u3 1 1) (u4 : Int32) (hu4 : iv u4 (-2147483648) 2147483647) (u5 : Int32) (hu5 : iv u5 (-2147483648) 2147483647) (u6 : Int32) (hu6 : iv u6 (-2147483648) 2147483647) (u7 : Int32) (hu7 : iv u7 (-2147483648) 2147483647) (hNG : NGs τ f u0) : mI l yX11_numberOf cX11_numberOf 8 (.int) rm_s_X11_numberOfb D G b0 f [.ref u0, .int u1, .int u2, .int u3, .int u4, .int u5, .int u6, .int u7] (fun r f1 => iv r (-2147483648) 2147483647 ∧ TI G 9 τ f1 ∧ Fr [60, 67, 69, 72, 73, 74, 75, 76, 60013, 60014, 60015, 60028, 60029] τ f f1 ∧ NGs τ f1 u0) := by
  refine met2 (own := RX11) (by decide) rfl (Nat.le_of_ble_eq_true rfl) ?_
  intro p e s m args below meth c ls Q hQ C hr hini hl h
  have hl : lv_has ls 8 [(0, .ref u0), (1, .int u1), (2, .int u2), (3, .int u3), (4, .int u4), (5, .int u5), (6, .int u6), (7, .int u7)] := hl
  obtain ⟨hx, hb, hml, hown, hts, hE0, hlk⟩ := id C
  have o := Fr.rf [60, 67, 69, 72, 73, 74, 75, 76, 60013, 60014, 60015, 60028, 60029] τ f
  refine lv_aload_n hx hb dX11_numberOf_0 rfl (lv_at hl 0 rfl) ?_
  refine lv_iload_n hx hb dX11_numberOf_1 rfl (lv_at hl 1 rfl) ?_
  refine lv_iload_n hx hb dX11_numberOf_2 rfl (lv_at hl 2 rfl) ?_
  refine lv_iload_n hx hb dX11_numberOf_3 rfl (lv_at hl 3 rfl) ?_
  refine lv_iload hx hb dX11_numberOf_4 (lv_at hl 4 rfl) ?_
  refine lv_iload hx hb dX11_numberOf_6 (lv_at hl 5 rfl) ?_
  obtain ⟨_, r1⟩ := t_rec t hu0 (by decide) wf_60
  refine k_i (r_V C h hl (As := [.int u1, .int u2, .int u3, .int u4, .int u5]) (rest := []) (s_X11_isGuessb l D G b0 τ f t u0 hu0 u1 hu1 u2 hu2 u3 hu3 u4 hu4 u5 hu5) r1 (Cn := RX11) (T := TX11) (N := 32) rfl rfl mk_X11_isGuess w_1936 w_1938 w_78 w_1939 ⟨Nat.le_of_ble_eq_true rfl, Nat.le_of_ble_eq_true rfl⟩ rfl (Nat.le_of_ble_eq_true rfl) ⟨Nat.le_of_ble_eq_true rfl, Nat.le_of_ble_eq_true rfl⟩ rfl dX11_numberOf_8) h (fun r2 f3 H locs p4 h => ?_)
  obtain ⟨ir2, tf3, ogf3, cnr2⟩ := p4
  have egf3 := Fr.nil2 ogf3
  subst egf3
  refine lv_if_eq (tgt := 40) hx hb dX11_numberOf_11 (by decide) (fun c5 => ?_) (fun c5 => ?_)
  · have c6 : r2.toInt = 0 := congrArg Int32.toInt c5
    have i7 : iv r2 0 0 := iv_Q c6 ir2 (iv_k (x := 0) (k := 0) rfl) (by decide)
    refine lv_ldcw (v := -1000000) hx hb hown (hts _ w_1787) dX11_numberOf_40 ?_
    exact u_iret C h hr hQ (⟨⟨by decide, by decide⟩, t, o, hNG⟩) (Nat.le_of_ble_eq_true rfl) (Nat.le_of_ble_eq_true rfl) dX11_numberOf_43
  · have c8 : r2.toInt ≠ 0 := fun z_ => c5 (Int32.toInt_inj.mp z_)
    have i9 : iv r2 1 1 := iv_Nl c8 ir2 (by decide)
    obtain ⟨i10, i11, i12, i13⟩ := cnr2 c8
    refine lv_iload hx hb dX11_numberOf_14 (lv_at hl 6 rfl) ?_
    refine lv_i2l hx hb dX11_numberOf_16 rfl (i_topL hu6 (fun w14 ew14 mw14 iw14 => ?_))
    refine lv_lconst (v := 0) hx hb dX11_numberOf_17 (by decide) ?_
    refine lv_iload hx hb dX11_numberOf_18 (lv_at hl 4 rfl) ?_
    refine lv_i2l hx hb dX11_numberOf_20 rfl (i_topL i12 (fun w15 ew15 mw15 iw15 => ?_))
    refine k_i (r_S C h hl (As := [.long w14, .long 0, .long w15]) (rest := []) (s_X11_isIn l D G b0 τ f t w14 0 w15) mk_X11_isIn w_1624 w_1625 w_1626 ⟨Nat.le_of_ble_eq_true rfl, Nat.le_of_ble_eq_true rfl⟩ rfl (Nat.le_of_ble_eq_true rfl) ⟨Nat.le_of_ble_eq_true rfl, Nat.le_of_ble_eq_true rfl⟩ rfl dX11_numberOf_21) h (fun r16 f17 H locs p18 h => ?_)
    have n19 : (0 : Int64).toInt = 0 := rfl
    obtain ⟨ir16, tf17, ogf17, cnr16⟩ := p18
    have egf17 := Fr.nil2 ogf17
    subst egf17
    refine lv_if_eq (tgt := 40) hx hb dX11_numberOf_24 (by decide) (fun c20 => ?_) (fun c20 => ?_)
    · have c21 : r16.toInt = 0 := congrArg Int32.toInt c20
      have i22 : iv r16 0 0 := iv_Q c21 ir16 (iv_k (x := 0) (k := 0) rfl) (by decide)
      refine lv_ldcw (v := -1000000) hx hb hown (hts _ w_1787) dX11_numberOf_40 ?_
      exact u_iret C h hr hQ (⟨⟨by decide, by decide⟩, t, o, hNG⟩) (Nat.le_of_ble_eq_true rfl) (Nat.le_of_ble_eq_true rfl) dX11_numberOf_43
    · have c23 : r16.toInt ≠ 0 := fun z_ => c20 (Int32.toInt_inj.mp z_)
      have i24 : iv r16 1 1 := iv_Nl c23 ir16 (by decide)
      obtain ⟨i25, i26⟩ := cnr16 c23
      have i27 : iv u6 0 3 := ⟨by omega, by omega⟩
      refine lv_iload hx hb dX11_numberOf_27 (lv_at hl 7 rfl) ?_
      refine lv_i2l hx hb dX11_numberOf_29 rfl (i_topL hu7 (fun w28 ew28 mw28 iw28 => ?_))
      refine lv_lconst (v := 0) hx hb dX11_numberOf_30 (by decide) ?_
      refine lv_iload hx hb dX11_numberOf_31 (lv_at hl 5 rfl) ?_
      refine lv_i2l hx hb dX11_numberOf_33 rfl (i_topL i13 (fun w29 ew29 mw29 iw29 => ?_))
      refine k_i (r_S C h hl (As := [.long w28, .long 0, .long w29]) (rest := []) (s_X11_isIn l D G b0 τ f t w28 0 w29) mk_X11_isIn w_1624 w_1625 w_1626 ⟨Nat.le_of_ble_eq_true rfl, Nat.le_of_ble_eq_true rfl⟩ rfl (Nat.le_of_ble_eq_true rfl) ⟨Nat.le_of_ble_eq_true rfl, Nat.le_of_ble_eq_true rfl⟩ rfl dX11_numberOf_34) h (fun r30 f31 H locs p32 h => ?_)
      have n33 : (0 : Int64).toInt = 0 := rfl
      obtain ⟨ir30, tf31, ogf31, cnr30⟩ := p32
      have egf31 := Fr.nil2 ogf31
      subst egf31
      refine lv_if_ne (tgt := 44) hx hb dX11_numberOf_37 (by decide) (fun c34 => ?_) (fun c34 => ?_)
      · have c35 : r30.toInt ≠ 0 := fun z_ => c34 (Int32.toInt_inj.mp z_)
        have i36 : iv r30 1 1 := iv_Nl c35 ir30 (by decide)
        obtain ⟨i37, i38⟩ := cnr30 c35
        have i39 : iv u7 0 6 := ⟨by omega, by omega⟩
        refine lv_aload_n hx hb dX11_numberOf_44 rfl (lv_at hl 0 rfl) ?_
        refine lv_iload_n hx hb dX11_numberOf_45 rfl (lv_at hl 1 rfl) ?_
        refine lv_iload_n hx hb dX11_numberOf_46 rfl (lv_at hl 2 rfl) ?_
        obtain ⟨_, r42⟩ := t_rec t hu0 (by decide) wf_60
        refine k_v (r_V C h hl (As := [.int u1, .int u2]) (rest := []) (s_X11_laysAll l D G b0 τ f t u0 hu0 u1 i10 u2 (iv_w i11 (by decide)) hNG) r42 (Cn := RX11) (T := TX11) (N := 32) rfl rfl mk_X11_laysAll w_1942 w_1944 w_79 w_1945 ⟨Nat.le_of_ble_eq_true rfl, Nat.le_of_ble_eq_true rfl⟩ rfl (Nat.le_of_ble_eq_true rfl) ⟨Nat.le_of_ble_eq_true rfl, Nat.le_of_ble_eq_true rfl⟩ rfl dX11_numberOf_47) h (fun f44 H locs p45 h => ?_)
        obtain ⟨tf44, ogf44, ngf44⟩ := p45
        have of44 : Fr [60, 67, 69, 72, 73, 74, 75, 76, 60013, 60014, 60015, 60028, 60029] τ f f44 := Fr.tr o ogf44 (by decide) (by decide)
        refine lv_aload_n hx hb dX11_numberOf_50 rfl (lv_at hl 0 rfl) ?_
        refine lv_iload_n hx hb dX11_numberOf_51 rfl (lv_at hl 3 rfl) ?_
        refine lv_iload hx hb dX11_numberOf_52 (lv_at hl 4 rfl) ?_
        refine lv_iload hx hb dX11_numberOf_54 (lv_at hl 5 rfl) ?_
        obtain ⟨_, r46⟩ := t_rec tf44 hu0 (by decide) wf_60
        refine k_i (r_V C h hl (As := [.int u3, .int u4, .int u5]) (rest := []) (s_X11_guessesb l D G b0 τ f44 tf44 u0 hu0 u3 hu3 u4 i12 u5 i13) r46 (Cn := RX11) (T := TX11) (N := 32) rfl rfl mk_X11_guesses w_1950 w_1952 w_81 w_1953 ⟨Nat.le_of_ble_eq_true rfl, Nat.le_of_ble_eq_true rfl⟩ rfl (Nat.le_of_ble_eq_true rfl) ⟨Nat.le_of_ble_eq_true rfl, Nat.le_of_ble_eq_true rfl⟩ rfl dX11_numberOf_56) h (fun r47 f48 H locs p49 h => ?_)
        obtain ⟨ir47, tf48, ogf48⟩ := p49
        have of48 : Fr [60, 67, 69, 72, 73, 74, 75, 76, 60013, 60014, 60015, 60028, 60029] τ f f48 := Fr.tr of44 ogf48 (by decide) (by decide)
        have k50 := NGs.fr ngf44 ogf48 hu0 (by decide)
        refine lv_if_eq (tgt := 81) hx hb dX11_numberOf_59 (by decide) (fun c51 => ?_) (fun c51 => ?_)
        · have c52 : r47.toInt = 0 := congrArg Int32.toInt c51
          have i53 : iv r47 0 0 := iv_Q c52 ir47 (iv_k (x := 0) (k := 0) rfl) (by decide)
          refine lv_iconst (v := -1) hx hb dX11_numberOf_81 (by decide) ?_
          exact u_iret C h hr hQ (⟨⟨by decide, by decide⟩, tf48, of48, k50⟩) (Nat.le_of_ble_eq_true rfl) (Nat.le_of_ble_eq_true rfl) dX11_numberOf_82
        · have c54 : r47.toInt ≠ 0 := fun z_ => c51 (Int32.toInt_inj.mp z_)
          have i55 : iv r47 1 1 := iv_Nl c54 ir47 (by decide)
          refine lv_aload_n hx hb dX11_numberOf_62 rfl (lv_at hl 0 rfl) ?_
          refine t_getr (tq := 74) C h tf48 hu0 (by decide) wf_60 rfl fl_X11_63 dX11_numberOf_63 (fun q56 tq56 => ?_)
          refine lv_iload hx hb dX11_numberOf_66 (lv_at hl 5 rfl) ?_
          refine lv_iconst (v := 1) hx hb dX11_numberOf_68 (by decide) ?_
          refine i_addk hx hb dX11_numberOf_69 i13 (k := 1) rfl (lo := 1) (hi := 7) (by decide) (fun z57 ez57 mz57 iz57 => ?_)
          refine lv_iload hx hb dX11_numberOf_70 (lv_at hl 6 rfl) ?_
          refine i_mulp hx hb dX11_numberOf_72 iz57 i27 (lo := 0) (hi := 21) (by decide) (fun z58 ez58 iz58 => ?_)
          refine lv_iload hx hb dX11_numberOf_73 (lv_at hl 7 rfl) ?_
          refine i_add hx hb dX11_numberOf_75 iz58 i39 (lo := 0) (hi := 27) (by decide) (fun z59 ez59 mz59 iz59 => ?_)
          refine t_lald C h tf48 tq56 (by decide) wf_74 (iv_in iz59 (by decide)) dX11_numberOf_76 (fun w60 => ?_)
          refine lv_l2i hx hb dX11_numberOf_77 rfl (i_top (iv_any _) (fun z61 ez61 iz61 => ?_))
          refine lv_goto (tgt := 82) hx hb dX11_numberOf_78 (by decide) ?_
          exact u_iret C h hr hQ (⟨iz61, tf48, of48, k50⟩) (Nat.le_of_ble_eq_true rfl) (Nat.le_of_ble_eq_true rfl) dX11_numberOf_82
      · have c40 : r30.toInt = 0 := congrArg Int32.toInt c34
        have i41 : iv r30 0 0 := iv_Q c40 ir30 (iv_k (x := 0) (k := 0) rfl) (by decide)
        refine lv_ldcw (v := -1000000) hx hb hown (hts _ w_1787) dX11_numberOf_40 ?_
        exact u_iret C h hr hQ (⟨⟨by decide, by decide⟩, t, o, hNG⟩) (Nat.le_of_ble_eq_true rfl) (Nat.le_of_ble_eq_true rfl) dX11_numberOf_43
abbrev rm_s_X11_failOfb : Room := { frames := 5, cells := 0, slots := 0, locals := 122 }
set_option maxRecDepth 100000 in
set_option maxHeartbeats 4000000 in
theorem s_X11_failOfb (l : Launch) (D : va_G) (G : Nat → Nat) (b0 : Nat) (τ : Nat → Nat) (f : hM) (t : TI G 9 τ f) (u0 : Nat) (hu0 : τ u0 = 60) (u1 : Int32) (hu1 : iv u1 (-2147483648) 2147483647) (u2 : Int32) (hu2 : iv u2 (-2147483648) 2147483647) (u3 : Int32) (hu3 : iv u3 1 1) (u4 : Int32) (hu4 : iv u4 (-2147483648) 2147483647) (u5 : Int32) (hu5 : iv u5 (-2147483648) 2147483647) (hNG : NGs τ f u0) : mI l yX11_failOf cX11_failOf 6 (.int) rm_s_X11_failOfb D G b0 f [.ref u0, .int u1, .int u2, .int u3, .int u4, .int u5] (fun r f1 => iv r (-1000000) 60 ∧ TI G 9 τ f1 ∧ Fr [60, 67, 69, 72, 73, 74, 75, 76, 60013, 60014, 60015, 60028, 60029] τ f f1 ∧ NGs τ f1 u0) := by
  refine met2 (own := RX11) (by decide) rfl (Nat.le_of_ble_eq_true rfl) ?_
  intro p e s m args below meth c ls Q hQ C hr hini hl h
  have hl : lv_has ls 6 [(0, .ref u0), (1, .int u1), (2, .int u2), (3, .int u3), (4, .int u4), (5, .int u5)] := hl
  obtain ⟨hx, hb, hml, hown, hts, hE0, hlk⟩ := id C
  have o := Fr.rf [60, 67, 69, 72, 73, 74, 75, 76, 60013, 60014, 60015, 60028, 60029] τ f
  refine lv_aload_n hx hb dX11_failOf_0 rfl (lv_at hl 0 rfl) ?_
  refine lv_iload_n hx hb dX11_failOf_1 rfl (lv_at hl 1 rfl) ?_
  refine lv_iload_n hx hb dX11_failOf_2 rfl (lv_at hl 2 rfl) ?_
  refine lv_iload_n hx hb dX11_failOf_3 rfl (lv_at hl 3 rfl) ?_
  refine lv_iload hx hb dX11_failOf_4 (lv_at hl 4 rfl) ?_
  refine lv_iload hx hb dX11_failOf_6 (lv_at hl 5 rfl) ?_
  obtain ⟨_, r1⟩ := t_rec t hu0 (by decide) wf_60
  refine k_i (r_V C h hl (As := [.int u1, .int u2, .int u3, .int u4, .int u5]) (rest := []) (s_X11_isGuessb l D G b0 τ f t u0 hu0 u1 hu1 u2 hu2 u3 hu3 u4 hu4 u5 hu5) r1 (Cn := RX11) (T := TX11) (N := 32) rfl rfl mk_X11_isGuess w_1936 w_1938 w_78 w_1939 ⟨Nat.le_of_ble_eq_true rfl, Nat.le_of_ble_eq_true rfl⟩ rfl (Nat.le_of_ble_eq_true rfl) ⟨Nat.le_of_ble_eq_true rfl, Nat.le_of_ble_eq_true rfl⟩ rfl dX11_failOf_8) h (fun r2 f3 H locs p4 h => ?_)
  obtain ⟨ir2, tf3, ogf3, cnr2⟩ := p4
  have egf3 := Fr.nil2 ogf3
  subst egf3
  refine lv_if_ne (tgt := 18) hx hb dX11_failOf_11 (by decide) (fun c5 => ?_) (fun c5 => ?_)
  · have c6 : r2.toInt ≠ 0 := fun z_ => c5 (Int32.toInt_inj.mp z_)
    have i7 : iv r2 1 1 := iv_Nl c6 ir2 (by decide)
    obtain ⟨i8, i9, i10, i11⟩ := cnr2 c6
    refine lv_aload_n hx hb dX11_failOf_18 rfl (lv_at hl 0 rfl) ?_
    refine lv_iload_n hx hb dX11_failOf_19 rfl (lv_at hl 1 rfl) ?_
    refine lv_iload_n hx hb dX11_failOf_20 rfl (lv_at hl 2 rfl) ?_
    obtain ⟨_, r14⟩ := t_rec t hu0 (by decide) wf_60
    refine k_v (r_V C h hl (As := [.int u1, .int u2]) (rest := []) (s_X11_laysAll l D G b0 τ f t u0 hu0 u1 i8 u2 (iv_w i9 (by decide)) hNG) r14 (Cn := RX11) (T := TX11) (N := 32) rfl rfl mk_X11_laysAll w_1942 w_1944 w_79 w_1945 ⟨Nat.le_of_ble_eq_true rfl, Nat.le_of_ble_eq_true rfl⟩ rfl (Nat.le_of_ble_eq_true rfl) ⟨Nat.le_of_ble_eq_true rfl, Nat.le_of_ble_eq_true rfl⟩ rfl dX11_failOf_21) h (fun f16 H locs p17 h => ?_)
    obtain ⟨tf16, ogf16, ngf16⟩ := p17
    have of16 : Fr [60, 67, 69, 72, 73, 74, 75, 76, 60013, 60014, 60015, 60028, 60029] τ f f16 := Fr.tr o ogf16 (by decide) (by decide)
    refine lv_aload_n hx hb dX11_failOf_24 rfl (lv_at hl 0 rfl) ?_
    refine lv_iload_n hx hb dX11_failOf_25 rfl (lv_at hl 3 rfl) ?_
    refine lv_iload hx hb dX11_failOf_26 (lv_at hl 4 rfl) ?_
    refine lv_iload hx hb dX11_failOf_28 (lv_at hl 5 rfl) ?_
    obtain ⟨_, r18⟩ := t_rec tf16 hu0 (by decide) wf_60
    refine k_i (r_V C h hl (As := [.int u3, .int u4, .int u5]) (rest := []) (s_X11_guessesb l D G b0 τ f16 tf16 u0 hu0 u3 hu3 u4 i10 u5 i11) r18 (Cn := RX11) (T := TX11) (N := 32) rfl rfl mk_X11_guesses w_1950 w_1952 w_81 w_1953 ⟨Nat.le_of_ble_eq_true rfl, Nat.le_of_ble_eq_true rfl⟩ rfl (Nat.le_of_ble_eq_true rfl) ⟨Nat.le_of_ble_eq_true rfl, Nat.le_of_ble_eq_true rfl⟩ rfl dX11_failOf_30) h (fun r19 f20 H locs p21 h => ?_)
    obtain ⟨ir19, tf20, ogf20⟩ := p21
    have of20 : Fr [60, 67, 69, 72, 73, 74, 75, 76, 60013, 60014, 60015, 60028, 60029] τ f f20 := Fr.tr of16 ogf20 (by decide) (by decide)
    have k22 := NGs.fr ngf16 ogf20 hu0 (by decide)
    refine lv_if_eq (tgt := 48) hx hb dX11_failOf_33 (by decide) (fun c23 => ?_) (fun c23 => ?_)
    · have c24 : r19.toInt = 0 := congrArg Int32.toInt c23
      have i25 : iv r19 0 0 := iv_Q c24 ir19 (iv_k (x := 0) (k := 0) rfl) (by decide)
      refine lv_bipush (v := -2) hx hb dX11_failOf_48 (by decide) ?_
      exact u_iret C h hr hQ (⟨⟨by decide, by decide⟩, tf20, of20, k22⟩) (Nat.le_of_ble_eq_true rfl) (Nat.le_of_ble_eq_true rfl) dX11_failOf_50
    · have c26 : r19.toInt ≠ 0 := fun z_ => c23 (Int32.toInt_inj.mp z_)
      have i27 : iv r19 1 1 := iv_Nl c26 ir19 (by decide)
      refine lv_aload_n hx hb dX11_failOf_36 rfl (lv_at hl 0 rfl) ?_
      refine lv_iload_n hx hb dX11_failOf_37 rfl (lv_at hl 3 rfl) ?_
      refine lv_iload hx hb dX11_failOf_38 (lv_at hl 4 rfl) ?_
      refine lv_iload hx hb dX11_failOf_40 (lv_at hl 5 rfl) ?_
      obtain ⟨_, r28⟩ := t_rec tf20 hu0 (by decide) wf_60
      refine k_i (r_V C h hl (As := [.int u3, .int u4, .int u5]) (rest := []) (s_X11_failsAtb l D G b0 τ f20 tf20 u0 hu0 u3 hu3 u4 i10 u5 i11) r28 (Cn := RX11) (T := TX11) (N := 32) rfl rfl mk_X11_failsAt w_1981 w_1983 w_87 w_1984 ⟨Nat.le_of_ble_eq_true rfl, Nat.le_of_ble_eq_true rfl⟩ rfl (Nat.le_of_ble_eq_true rfl) ⟨Nat.le_of_ble_eq_true rfl, Nat.le_of_ble_eq_true rfl⟩ rfl dX11_failOf_42) h (fun r29 f30 H locs p31 h => ?_)
      obtain ⟨ir29, tf30, ogf30⟩ := p31
      have egf30 := Fr.nil2 ogf30
      subst egf30
      refine lv_goto (tgt := 50) hx hb dX11_failOf_45 (by decide) ?_
      exact u_iret C h hr hQ (⟨(iv_w ir29 (by decide)), tf20, of20, k22⟩) (Nat.le_of_ble_eq_true rfl) (Nat.le_of_ble_eq_true rfl) dX11_failOf_50
  · have c12 : r2.toInt = 0 := congrArg Int32.toInt c5
    have i13 : iv r2 0 0 := iv_Q c12 ir2 (iv_k (x := 0) (k := 0) rfl) (by decide)
    refine lv_ldcw (v := -1000000) hx hb hown (hts _ w_1787) dX11_failOf_14 ?_
    exact u_iret C h hr hQ (⟨⟨by decide, by decide⟩, t, o, hNG⟩) (Nat.le_of_ble_eq_true rfl) (Nat.le_of_ble_eq_true rfl) dX11_failOf_17
abbrev rm_s_X11_recurrence : Room := { frames := 6, cells := 0, slots := 0, locals := 149 }
set_option maxRecDepth 100000 in
set_option maxHeartbeats 4000000 in
theorem s_X11_recurrence (l : Launch) (D : va_G) (G : Nat → Nat) (b0 : Nat) (τ : Nat → Nat) (f : hM) (t : TI G 9 τ f) (u0 : Nat) (hu0 : τ u0 = 60) (u1 : Int32) (hu1 : iv u1 (-2147483648) 2147483647) (u2 : Int32) (hu2 : iv u2 (-2147483648) 2147483647) (u3 : Int32) (hu3 : iv u3 (-2147483648) 2147483647) (u4 : Int32) (hu4 : iv u4 (-2147483648) 2147483647) (u5 : Int32) (hu5 : iv u5 (-2147483648) 2147483647) (u6 : Int32) (hu6 : iv u6 (-2147483648) 2147483647) (hNG : NGs τ f u0) : mI l yX11_recurrence cX11_recurrence 7 (.int) rm_s_X11_recurrence D G b0 f [.ref u0, .int u1, .int u2, .int u3, .int u4, .int u5, .int u6] (fun r f1 => iv r (-2147483648) 2147483647 ∧ TI G 9 τ f1 ∧ Fr [60, 67, 69, 72, 73, 74, 75, 76, 60001, 60013, 60014, 60015, 60028, 60029] τ f f1 ∧ NGs τ f1 u0) := by
  refine met2 (own := RX11) (by decide) rfl (Nat.le_of_ble_eq_true rfl) ?_
  intro p e s m args below meth c ls Q hQ C hr hini hl h
  have hl : lv_has ls 7 [(0, .ref u0), (1, .int u1), (2, .int u2), (3, .int u3), (4, .int u4), (5, .int u5), (6, .int u6)] := hl
  obtain ⟨hx, hb, hml, hown, hts, hE0, hlk⟩ := id C
  have o := Fr.rf [60, 67, 69, 72, 73, 74, 75, 76, 60001, 60013, 60014, 60015, 60028, 60029] τ f
  refine lv_aload_n hx hb dX11_recurrence_0 rfl (lv_at hl 0 rfl) ?_
  refine lv_iconst (v := 0) hx hb dX11_recurrence_1 (by decide) ?_
  refine t_put C h t o hu0 (by decide) (by decide) (by decide) wf_60 fw_60 (k := 0) rfl flw_X11_75 (Or.inr ⟨_, _, _, rfl, rfl⟩) (v := .int 0) rfl rfl ⟨_, rfl, ⟨by decide, by decide⟩⟩ dX11_recurrence_2 (fun f1 H locs h tf1 of1 hq ha_ hn_ hk_ => ?_)
  have k2 := NGs.pk hNG hk_ (by decide) (by decide)
  have k3 := ha_
  refine lv_aload_n hx hb dX11_recurrence_5 rfl (lv_at hl 0 rfl) ?_
  refine lv_iload_n hx hb dX11_recurrence_6 rfl (lv_at hl 1 rfl) ?_
  refine lv_iload_n hx hb dX11_recurrence_7 rfl (lv_at hl 2 rfl) ?_
  refine lv_iconst (v := 0) hx hb dX11_recurrence_8 (by decide) ?_
  refine lv_iload_n hx hb dX11_recurrence_9 rfl (lv_at hl 3 rfl) ?_
  refine lv_iload hx hb dX11_recurrence_10 (lv_at hl 4 rfl) ?_
  refine lv_iload hx hb dX11_recurrence_12 (lv_at hl 5 rfl) ?_
  refine lv_iload hx hb dX11_recurrence_14 (lv_at hl 6 rfl) ?_
  obtain ⟨_, r4⟩ := t_rec tf1 hu0 (by decide) wf_60
  refine k_i (r_V C h hl (As := [.int u1, .int u2, .int 0, .int u3, .int u4, .int u5, .int u6]) (rest := []) (s_X11_numberOfa l D G b0 τ f1 tf1 u0 hu0 u1 hu1 u2 hu2 0 (iv_w (iv_k (x := 0) (k := 0) rfl) (by decide)) u3 hu3 u4 hu4 u5 hu5 u6 hu6 k2) r4 (Cn := RX11) (T := TX11) (N := 32) rfl rfl mk_X11_numberOf w_1932 w_1934 w_77 w_1935 ⟨Nat.le_of_ble_eq_true rfl, Nat.le_of_ble_eq_true rfl⟩ rfl (Nat.le_of_ble_eq_true rfl) ⟨Nat.le_of_ble_eq_true rfl, Nat.le_of_ble_eq_true rfl⟩ rfl dX11_recurrence_16) h (fun r5 f6 H locs p7 h => ?_)
  obtain ⟨ir5, tf6, ogf6, ngf6⟩ := p7
  have of6 : Fr [60, 67, 69, 72, 73, 74, 75, 76, 60001, 60013, 60014, 60015, 60028, 60029] τ f f6 := Fr.tr of1 ogf6 (by decide) (by decide)
  exact u_iret C h hr hQ (⟨ir5, tf6, of6, ngf6⟩) (Nat.le_of_ble_eq_true rfl) (Nat.le_of_ble_eq_true rfl) dX11_recurrence_19
abbrev rm_s_X11_equation : Room := { frames := 6, cells := 0, slots := 0, locals := 149 }
set_option maxRecDepth 100000 in
set_option maxHeartbeats 4000000 in
theorem s_X11_equation (l : Launch) (D : va_G) (G : Nat → Nat) (b0 : Nat) (τ : Nat → Nat) (f : hM) (t : TI G 9 τ f) (u0 : Nat) (hu0 : τ u0 = 60) (u1 : Int32) (hu1 : iv u1 (-2147483648) 2147483647) (u2 : Int32) (hu2 : iv u2 (-2147483648) 2147483647) (u3 : Int32) (hu3 : iv u3 (-2147483648) 2147483647) (u4 : Int32) (hu4 : iv u4 (-2147483648) 2147483647) (u5 : Int32) (hu5 : iv u5 (-2147483648) 2147483647) (u6 : Int32) (hu6 : iv u6 (-2147483648) 2147483647) (hNG : NGs τ f u0) : mI l yX11_equation cX11_equation 7 (.int) rm_s_X11_equation D G b0 f [.ref u0, .int u1, .int u2, .int u3, .int u4, .int u5, .int u6] (fun r f1 => iv r (-2147483648) 2147483647 ∧ TI G 9 τ f1 ∧ Fr [60, 67, 69, 72, 73, 74, 75, 76, 60001, 60013, 60014, 60015, 60028, 60029] τ f f1 ∧ NGs τ f1 u0) := by
  refine met2 (own := RX11) (by decide) rfl (Nat.le_of_ble_eq_true rfl) ?_
  intro p e s m args below meth c ls Q hQ C hr hini hl h
  have hl : lv_has ls 7 [(0, .ref u0), (1, .int u1), (2, .int u2), (3, .int u3), (4, .int u4), (5, .int u5), (6, .int u6)] := hl
  obtain ⟨hx, hb, hml, hown, hts, hE0, hlk⟩ := id C
  have o := Fr.rf [60, 67, 69, 72, 73, 74, 75, 76, 60001, 60013, 60014, 60015, 60028, 60029] τ f
  refine lv_aload_n hx hb dX11_equation_0 rfl (lv_at hl 0 rfl) ?_
  refine lv_iconst (v := 0) hx hb dX11_equation_1 (by decide) ?_
  refine t_put C h t o hu0 (by decide) (by decide) (by decide) wf_60 fw_60 (k := 0) rfl flw_X11_75 (Or.inr ⟨_, _, _, rfl, rfl⟩) (v := .int 0) rfl rfl ⟨_, rfl, ⟨by decide, by decide⟩⟩ dX11_equation_2 (fun f1 H locs h tf1 of1 hq ha_ hn_ hk_ => ?_)
  have k2 := NGs.pk hNG hk_ (by decide) (by decide)
  have k3 := ha_
  refine lv_aload_n hx hb dX11_equation_5 rfl (lv_at hl 0 rfl) ?_
  refine lv_iload_n hx hb dX11_equation_6 rfl (lv_at hl 1 rfl) ?_
  refine lv_iload_n hx hb dX11_equation_7 rfl (lv_at hl 2 rfl) ?_
  refine lv_iconst (v := 1) hx hb dX11_equation_8 (by decide) ?_
  refine lv_iload_n hx hb dX11_equation_9 rfl (lv_at hl 3 rfl) ?_
  refine lv_iload hx hb dX11_equation_10 (lv_at hl 4 rfl) ?_
  refine lv_iload hx hb dX11_equation_12 (lv_at hl 5 rfl) ?_
  refine lv_iload hx hb dX11_equation_14 (lv_at hl 6 rfl) ?_
  obtain ⟨_, r4⟩ := t_rec tf1 hu0 (by decide) wf_60
  refine k_i (r_V C h hl (As := [.int u1, .int u2, .int 1, .int u3, .int u4, .int u5, .int u6]) (rest := []) (s_X11_numberOfb l D G b0 τ f1 tf1 u0 hu0 u1 hu1 u2 hu2 1 (iv_w (iv_k (x := 1) (k := 1) rfl) (by decide)) u3 hu3 u4 hu4 u5 hu5 u6 hu6 k2) r4 (Cn := RX11) (T := TX11) (N := 32) rfl rfl mk_X11_numberOf w_1932 w_1934 w_77 w_1935 ⟨Nat.le_of_ble_eq_true rfl, Nat.le_of_ble_eq_true rfl⟩ rfl (Nat.le_of_ble_eq_true rfl) ⟨Nat.le_of_ble_eq_true rfl, Nat.le_of_ble_eq_true rfl⟩ rfl dX11_equation_16) h (fun r5 f6 H locs p7 h => ?_)
  obtain ⟨ir5, tf6, ogf6, ngf6⟩ := p7
  have of6 : Fr [60, 67, 69, 72, 73, 74, 75, 76, 60001, 60013, 60014, 60015, 60028, 60029] τ f f6 := Fr.tr of1 ogf6 (by decide) (by decide)
  exact u_iret C h hr hQ (⟨ir5, tf6, of6, ngf6⟩) (Nat.le_of_ble_eq_true rfl) (Nat.le_of_ble_eq_true rfl) dX11_equation_19
abbrev rm_s_X11_fails_ : Room := { frames := 6, cells := 0, slots := 0, locals := 147 }
set_option maxRecDepth 100000 in
set_option maxHeartbeats 4000000 in
theorem s_X11_fails_ (l : Launch) (D : va_G) (G : Nat → Nat) (b0 : Nat) (τ : Nat → Nat) (f : hM) (t : TI G 9 τ f) (u0 : Nat) (hu0 : τ u0 = 60) (u1 : Int32) (hu1 : iv u1 (-2147483648) 2147483647) (u2 : Int32) (hu2 : iv u2 (-2147483648) 2147483647) (u3 : Int32) (hu3 : iv u3 (-2147483648) 2147483647) (u4 : Int32) (hu4 : iv u4 (-2147483648) 2147483647) (hNG : NGs τ f u0) : mI l yX11_fails_ cX11_fails_ 5 (.int) rm_s_X11_fails_ D G b0 f [.ref u0, .int u1, .int u2, .int u3, .int u4] (fun r f1 => iv r (-1000000) 59 ∧ TI G 9 τ f1 ∧ Fr [60, 67, 69, 72, 73, 74, 75, 76, 60001, 60013, 60014, 60015, 60028, 60029] τ f f1 ∧ NGs τ f1 u0) := by
  refine met2 (own := RX11) (by decide) rfl (Nat.le_of_ble_eq_true rfl) ?_
  intro p e s m args below meth c ls Q hQ C hr hini hl h
  have hl : lv_has ls 5 [(0, .ref u0), (1, .int u1), (2, .int u2), (3, .int u3), (4, .int u4)] := hl
  obtain ⟨hx, hb, hml, hown, hts, hE0, hlk⟩ := id C
  have o := Fr.rf [60, 67, 69, 72, 73, 74, 75, 76, 60001, 60013, 60014, 60015, 60028, 60029] τ f
  refine lv_aload_n hx hb dX11_fails__0 rfl (lv_at hl 0 rfl) ?_
  refine lv_iconst (v := 0) hx hb dX11_fails__1 (by decide) ?_
  refine t_put C h t o hu0 (by decide) (by decide) (by decide) wf_60 fw_60 (k := 0) rfl flw_X11_75 (Or.inr ⟨_, _, _, rfl, rfl⟩) (v := .int 0) rfl rfl ⟨_, rfl, ⟨by decide, by decide⟩⟩ dX11_fails__2 (fun f1 H locs h tf1 of1 hq ha_ hn_ hk_ => ?_)
  have k2 := NGs.pk hNG hk_ (by decide) (by decide)
  have k3 := ha_
  refine lv_aload_n hx hb dX11_fails__5 rfl (lv_at hl 0 rfl) ?_
  refine lv_iload_n hx hb dX11_fails__6 rfl (lv_at hl 1 rfl) ?_
  refine lv_iload_n hx hb dX11_fails__7 rfl (lv_at hl 2 rfl) ?_
  refine lv_iconst (v := 0) hx hb dX11_fails__8 (by decide) ?_
  refine lv_iload_n hx hb dX11_fails__9 rfl (lv_at hl 3 rfl) ?_
  refine lv_iload hx hb dX11_fails__10 (lv_at hl 4 rfl) ?_
  obtain ⟨_, r4⟩ := t_rec tf1 hu0 (by decide) wf_60
  refine k_i (r_V C h hl (As := [.int u1, .int u2, .int 0, .int u3, .int u4]) (rest := []) (s_X11_failOfa l D G b0 τ f1 tf1 u0 hu0 u1 hu1 u2 hu2 0 (iv_w (iv_k (x := 0) (k := 0) rfl) (by decide)) u3 hu3 u4 hu4 k2) r4 (Cn := RX11) (T := TX11) (N := 32) rfl rfl mk_X11_failOf w_1977 w_1979 w_86 w_1980 ⟨Nat.le_of_ble_eq_true rfl, Nat.le_of_ble_eq_true rfl⟩ rfl (Nat.le_of_ble_eq_true rfl) ⟨Nat.le_of_ble_eq_true rfl, Nat.le_of_ble_eq_true rfl⟩ rfl dX11_fails__12) h (fun r5 f6 H locs p7 h => ?_)
  obtain ⟨ir5, tf6, ogf6, ngf6⟩ := p7
  have of6 : Fr [60, 67, 69, 72, 73, 74, 75, 76, 60001, 60013, 60014, 60015, 60028, 60029] τ f f6 := Fr.tr of1 ogf6 (by decide) (by decide)
  exact u_iret C h hr hQ (⟨ir5, tf6, of6, ngf6⟩) (Nat.le_of_ble_eq_true rfl) (Nat.le_of_ble_eq_true rfl) dX11_fails__15
abbrev rm_s_X11_breaks : Room := { frames := 6, cells := 0, slots := 0, locals := 147 }
set_option maxRecDepth 100000 in
set_option maxHeartbeats 4000000 in
theorem s_X11_breaks (l : Launch) (D : va_G) (G : Nat → Nat) (b0 : Nat) (τ : Nat → Nat) (f : hM) (t : TI G 9 τ f) (u0 : Nat) (hu0 : τ u0 = 60) (u1 : Int32) (hu1 : iv u1 (-2147483648) 2147483647) (u2 : Int32) (hu2 : iv u2 (-2147483648) 2147483647) (u3 : Int32) (hu3 : iv u3 (-2147483648) 2147483647) (u4 : Int32) (hu4 : iv u4 (-2147483648) 2147483647) (hNG : NGs τ f u0) : mI l yX11_breaks cX11_breaks 5 (.int) rm_s_X11_breaks D G b0 f [.ref u0, .int u1, .int u2, .int u3, .int u4] (fun r f1 => iv r (-1000000) 60 ∧ TI G 9 τ f1 ∧ Fr [60, 67, 69, 72, 73, 74, 75, 76, 60001, 60013, 60014, 60015, 60028, 60029] τ f f1 ∧ NGs τ f1 u0) := by
  refine met2 (own := RX11) (by decide) rfl (Nat.le_of_ble_eq_true rfl) ?_
  intro p e s m args below meth c ls Q hQ C hr hini hl h
  have hl : lv_has ls 5 [(0, .ref u0), (1, .int u1), (2, .int u2), (3, .int u3), (4, .int u4)] := hl
  obtain ⟨hx, hb, hml, hown, hts, hE0, hlk⟩ := id C
  have o := Fr.rf [60, 67, 69, 72, 73, 74, 75, 76, 60001, 60013, 60014, 60015, 60028, 60029] τ f
  refine lv_aload_n hx hb dX11_breaks_0 rfl (lv_at hl 0 rfl) ?_
  refine lv_iconst (v := 0) hx hb dX11_breaks_1 (by decide) ?_
  refine t_put C h t o hu0 (by decide) (by decide) (by decide) wf_60 fw_60 (k := 0) rfl flw_X11_75 (Or.inr ⟨_, _, _, rfl, rfl⟩) (v := .int 0) rfl rfl ⟨_, rfl, ⟨by decide, by decide⟩⟩ dX11_breaks_2 (fun f1 H locs h tf1 of1 hq ha_ hn_ hk_ => ?_)
  have k2 := NGs.pk hNG hk_ (by decide) (by decide)
  have k3 := ha_
  refine lv_aload_n hx hb dX11_breaks_5 rfl (lv_at hl 0 rfl) ?_
  refine lv_iload_n hx hb dX11_breaks_6 rfl (lv_at hl 1 rfl) ?_
  refine lv_iload_n hx hb dX11_breaks_7 rfl (lv_at hl 2 rfl) ?_
  refine lv_iconst (v := 1) hx hb dX11_breaks_8 (by decide) ?_
  refine lv_iload_n hx hb dX11_breaks_9 rfl (lv_at hl 3 rfl) ?_
  refine lv_iload hx hb dX11_breaks_10 (lv_at hl 4 rfl) ?_
  obtain ⟨_, r4⟩ := t_rec tf1 hu0 (by decide) wf_60
  refine k_i (r_V C h hl (As := [.int u1, .int u2, .int 1, .int u3, .int u4]) (rest := []) (s_X11_failOfb l D G b0 τ f1 tf1 u0 hu0 u1 hu1 u2 hu2 1 (iv_w (iv_k (x := 1) (k := 1) rfl) (by decide)) u3 hu3 u4 hu4 k2) r4 (Cn := RX11) (T := TX11) (N := 32) rfl rfl mk_X11_failOf w_1977 w_1979 w_86 w_1980 ⟨Nat.le_of_ble_eq_true rfl, Nat.le_of_ble_eq_true rfl⟩ rfl (Nat.le_of_ble_eq_true rfl) ⟨Nat.le_of_ble_eq_true rfl, Nat.le_of_ble_eq_true rfl⟩ rfl dX11_breaks_12) h (fun r5 f6 H locs p7 h => ?_)
  obtain ⟨ir5, tf6, ogf6, ngf6⟩ := p7
  have of6 : Fr [60, 67, 69, 72, 73, 74, 75, 76, 60001, 60013, 60014, 60015, 60028, 60029] τ f f6 := Fr.tr of1 ogf6 (by decide) (by decide)
  exact u_iret C h hr hQ (⟨ir5, tf6, of6, ngf6⟩) (Nat.le_of_ble_eq_true rfl) (Nat.le_of_ble_eq_true rfl) dX11_breaks_15
abbrev rm_s_X11_leasta : Room := { frames := 5, cells := 0, slots := 0, locals := 122 }
set_option maxRecDepth 100000 in
set_option maxHeartbeats 4000000 in
theorem s_X11_leasta (l : Launch) (D : va_G) (G : Nat → Nat) (b0 : Nat) (τ : Nat → Nat) (f : hM) (t : TI G 9 τ f) (u0 : Nat) (hu0 : τ u0 = 60) (u1 : Int32) (hu1 : iv u1 (-2147483648) 2147483647) (u2 : Int32) (hu2 : iv u2 (-2147483648) 2147483647) (u3 : Int32) (hu3 : iv u3 0 0) (hNG : NGs τ f u0) : mI l yX11_least cX11_least 9 (.int) rm_s_X11_leasta D G b0 f [.ref u0, .int u1, .int u2, .int u3] (fun r f1 => iv r (-2147483648) 2147483647 ∧ TI G 9 τ f1 ∧ Fr [60, 67, 69, 72, 73, 74, 75, 76, 60001, 60013, 60014, 60015, 60028, 60029] τ f f1 ∧ NGs τ f1 u0) := by
  refine met2 (own := RX11) (by decide) rfl (Nat.le_of_ble_eq_true rfl) ?_
  intro p e s m args below meth c ls Q hQ C hr hini hl h
  have hl : lv_has ls 9 [(0, .ref u0), (1, .int u1), (2, .int u2), (3, .int u3)] := hl
  obtain ⟨hx, hb, hml, hown, hts, hE0, hlk⟩ := id C
  have o := Fr.rf [60, 67, 69, 72, 73, 74, 75, 76, 60001, 60013, 60014, 60015, 60028, 60029] τ f
  have L55 : ∀ (n55 : Nat) (ls : Array Slot) (f_55 : hM) (H : Heap) (locs : List Loc) (v55_4 : Int32) (v55_5 : Int32) (v55_6 : Int32), 5 - v55_6.toInt < (n55 : Int) → lv_has ls 9 [(0, .ref u0), (3, .int u3), (4, .int v55_4), (5, .int v55_5), (6, .int v55_6)] → hw D b0 s.heap f_55 H locs → TI G 9 τ f_55 → Fr [60, 67, 69, 72, 73, 74, 75, 76, 60001, 60013, 60014, 60015, 60028, 60029] τ f f_55 → iv v55_4 (-1) 60 → iv v55_5 2 29 → iv v55_6 1 5 → NGs τ f_55 u0 → W p l e rm_s_X11_leasta s m args below meth c H locs 0 0 Q (F0 m 55 ls []) := by
    intro n55
    induction n55 with
    | zero => intro ls f_55 H locs v55_4 v55_5 v55_6 hm55 hl h t_55 o_55 iv55_4 iv55_5 iv55_6 k55_u0_NG; exact absurd hm55 (by omega)
    | succ n55 ih55 =>
      intro ls f_55 H locs v55_4 v55_5 v55_6 hm55 hl h t_55 o_55 iv55_4 iv55_5 iv55_6 k55_u0_NG
      have L72 : ∀ (n72 : Nat) (ls : Array Slot) (f_72 : hM) (H : Heap) (locs : List Loc) (v72_4 : Int32) (v72_5 : Int32) (v72_7 : Int32), 5 - v72_7.toInt < (n72 : Int) → lv_has ls 9 [(0, .ref u0), (3, .int u3), (4, .int v72_4), (5, .int v72_5), (6, .int v55_6), (7, .int v72_7)] → hw D b0 s.heap f_72 H locs → TI G 9 τ f_72 → Fr [60, 67, 69, 72, 73, 74, 75, 76, 60001, 60013, 60014, 60015, 60028, 60029] τ f f_72 → iv v72_4 (-1) 60 → iv v72_5 2 29 → iv v55_6 1 4 → iv v72_7 0 5 → NGs τ f_72 u0 → W p l e rm_s_X11_leasta s m args below meth c H locs 0 0 Q (F0 m 72 ls []) := by
        intro n72
        induction n72 with
        | zero => intro ls f_72 H locs v72_4 v72_5 v72_7 hm72 hl h t_72 o_72 iv72_4 iv72_5 jv72_6 iv72_7 k72_u0_NG; exact absurd hm72 (by omega)
        | succ n72 ih72 =>
          intro ls f_72 H locs v72_4 v72_5 v72_7 hm72 hl h t_72 o_72 iv72_4 iv72_5 jv72_6 iv72_7 k72_u0_NG
          refine lv_iload hx hb dX11_least_72 (lv_at hl 5 rfl) ?_
          refine lv_iload_n hx hb dX11_least_74 rfl (lv_at hl 1 rfl) ?_
          refine lv_if_ne (tgt := 82) hx hb dX11_least_75 (by decide) (fun c1 => ?_) (fun c1 => ?_)
          · have c2 : u3.toInt ≠ 0 := fun z_ => c1 (Int32.toInt_inj.mp z_)
            exact (iv_cn_ c2 hu3 (iv_k (x := 0) (k := 0) rfl) (by decide)).elim
          · have c3 : u3.toInt = 0 := congrArg Int32.toInt c1
            refine lv_iconst (v := 4) hx hb dX11_least_78 (by decide) ?_
            refine lv_goto (tgt := 84) hx hb dX11_least_79 (by decide) ?_
            refine lv_icmp_gt (tgt := 153) hx hb dX11_least_84 (by decide) (fun c4 => ?_) (fun c4 => ?_)
            · have c5 : 4 < v72_7.toInt := Int32.lt_iff_toInt_lt.mp c4
              have i6 : iv v72_7 5 5 := iv_Lr c5 (iv_k (x := 4) (k := 4) rfl) iv72_7 (by decide)
              refine i_inc hx hb dX11_least_153 hl (k := 4) rfl jv72_6 rfl (lo := 2) (hi := 5) (by decide) (by decide) (lv' := fun v => [(6, .int v), (0, .ref u0), (3, .int u3), (4, .int v72_4), (5, .int v72_5), (7, .int v72_7)]) (fun _ => rfl) (fun z9 ls ez9 mz9 iz9 hl => ?_)
              refine lv_goto (tgt := 55) hx hb dX11_least_156 (by decide) ?_
              exact ih55 ls f_72 H locs v72_4 v72_5 z9 (show 5 - z9.toInt < _ by omega) (lv_cons hl 1 rfl (lv_cons hl 2 rfl (lv_cons hl 3 rfl (lv_cons hl 4 rfl (lv_cons hl 0 rfl (lv_nil hl)))))) h t_72 o_72 iv72_4 iv72_5 (iv_w iz9 (by decide)) k72_u0_NG
            · have c7 : v72_7.toInt ≤ 4 := Int32.le_iff_toInt_le.mp (iv_nlt c4)
              have i8 : iv v72_7 0 4 := iv_El c7 iv72_7 (iv_k (x := 4) (k := 4) rfl) (by decide)
              refine lv_iload hx hb dX11_least_87 (lv_at hl 4 rfl) ?_
              refine lv_iconst (v := 1) hx hb dX11_least_89 (by decide) ?_
              refine i_addk hx hb dX11_least_90 jv72_6 (k := 1) rfl (lo := 2) (hi := 5) (by decide) (fun z10 ez10 mz10 iz10 => ?_)
              refine lv_iload hx hb dX11_least_91 (lv_at hl 5 rfl) ?_
              refine lv_iconst (v := 1) hx hb dX11_least_93 (by decide) ?_
              refine i_addk hx hb dX11_least_94 i8 (k := 1) rfl (lo := 1) (hi := 5) (by decide) (fun z11 ez11 mz11 iz11 => ?_)
              refine i_mulp hx hb dX11_least_95 iz10 iz11 (lo := 2) (hi := 25) (by decide) (fun z12 ez12 iz12 => ?_)
              refine lv_istore (lv' := [(8, .int z12), (0, .ref u0), (3, .int u3), (4, .int v72_4), (5, .int v72_5), (6, .int v55_6), (7, .int v72_7)]) hx hb dX11_least_96 hl (by decide) rfl (fun ls hl => ?_)
              refine lv_iload hx hb dX11_least_98 (lv_at hl 0 rfl) ?_
              refine lv_iload hx hb dX11_least_100 (lv_at hl 4 rfl) ?_
              refine lv_icmp_ge (tgt := 147) hx hb dX11_least_102 (by decide) (fun c13 => ?_) (fun c13 => ?_)
              · have c14 : v72_5.toInt ≤ z12.toInt := Int32.le_iff_toInt_le.mp c13
                have i15 : iv v72_5 2 25 := iv_El c14 iv72_5 iz12 (by decide)
                refine i_inc hx hb dX11_least_147 hl (k := 6) rfl i8 rfl (lo := 1) (hi := 5) (by decide) (by decide) (lv' := fun v => [(7, .int v), (8, .int z12), (0, .ref u0), (3, .int u3), (4, .int v72_4), (5, .int v72_5), (6, .int v55_6)]) (fun _ => rfl) (fun z18 ls ez18 mz18 iz18 hl => ?_)
                refine lv_goto (tgt := 72) hx hb dX11_least_150 (by decide) ?_
                exact ih72 ls f_72 H locs v72_4 v72_5 z18 (show 5 - z18.toInt < _ by omega) (lv_cons hl 2 rfl (lv_cons hl 3 rfl (lv_cons hl 4 rfl (lv_cons hl 5 rfl (lv_cons hl 6 rfl (lv_cons hl 0 rfl (lv_nil hl))))))) h t_72 o_72 iv72_4 (iv_w i15 (by decide)) jv72_6 (iv_w iz18 (by decide)) k72_u0_NG
              · have c16 : z12.toInt < v72_5.toInt := Int32.lt_iff_toInt_lt.mp (iv_nle c13)
                have i17 : iv v72_5 3 29 := iv_Lr c16 iz12 iv72_5 (by decide)
                refine lv_aload_n hx hb dX11_least_105 rfl (lv_at hl 1 rfl) ?_
                refine lv_iload_n hx hb dX11_least_106 rfl (lv_at hl 2 rfl) ?_
                refine lv_iload hx hb dX11_least_107 (lv_at hl 5 rfl) ?_
                refine lv_iload hx hb dX11_least_109 (lv_at hl 6 rfl) ?_
                obtain ⟨_, r19⟩ := t_rec t_72 hu0 (by decide) wf_60
                refine k_i (r_V C h hl (As := [.int u3, .int v55_6, .int v72_7]) (rest := []) (s_X11_guessesa l D G b0 τ f_72 t_72 u0 hu0 u3 hu3 v55_6 jv72_6 v72_7 i8) r19 (Cn := RX11) (T := TX11) (N := 32) rfl rfl mk_X11_guesses w_1950 w_1952 w_81 w_1953 ⟨Nat.le_of_ble_eq_true rfl, Nat.le_of_ble_eq_true rfl⟩ rfl (Nat.le_of_ble_eq_true rfl) ⟨Nat.le_of_ble_eq_true rfl, Nat.le_of_ble_eq_true rfl⟩ rfl dX11_least_111) h (fun r20 f21 H locs p22 h => ?_)
                obtain ⟨ir20, tf21, ogf21⟩ := p22
                have of21 : Fr [60, 67, 69, 72, 73, 74, 75, 76, 60001, 60013, 60014, 60015, 60028, 60029] τ f f21 := Fr.tr o_72 ogf21 (by decide) (by decide)
                have k23 := NGs.fr k72_u0_NG ogf21 hu0 (by decide)
                refine lv_if_eq (tgt := 147) hx hb dX11_least_114 (by decide) (fun c24 => ?_) (fun c24 => ?_)
                · have c25 : r20.toInt = 0 := congrArg Int32.toInt c24
                  have i26 : iv r20 0 0 := iv_Q c25 ir20 (iv_k (x := 0) (k := 0) rfl) (by decide)
                  refine i_inc hx hb dX11_least_147 hl (k := 6) rfl i8 rfl (lo := 1) (hi := 5) (by decide) (by decide) (lv' := fun v => [(7, .int v), (8, .int z12), (0, .ref u0), (3, .int u3), (4, .int v72_4), (5, .int v72_5), (6, .int v55_6)]) (fun _ => rfl) (fun z29 ls ez29 mz29 iz29 hl => ?_)
                  refine lv_goto (tgt := 72) hx hb dX11_least_150 (by decide) ?_
                  exact ih72 ls f21 H locs v72_4 v72_5 z29 (show 5 - z29.toInt < _ by omega) (lv_cons hl 2 rfl (lv_cons hl 3 rfl (lv_cons hl 4 rfl (lv_cons hl 5 rfl (lv_cons hl 6 rfl (lv_cons hl 0 rfl (lv_nil hl))))))) h tf21 of21 iv72_4 (iv_w i17 (by decide)) jv72_6 (iv_w iz29 (by decide)) k23
                · have c27 : r20.toInt ≠ 0 := fun z_ => c24 (Int32.toInt_inj.mp z_)
                  have i28 : iv r20 1 1 := iv_Nl c27 ir20 (by decide)
                  refine lv_aload_n hx hb dX11_least_117 rfl (lv_at hl 1 rfl) ?_
                  refine lv_iload_n hx hb dX11_least_118 rfl (lv_at hl 2 rfl) ?_
                  refine lv_iload hx hb dX11_least_119 (lv_at hl 5 rfl) ?_
                  refine lv_iload hx hb dX11_least_121 (lv_at hl 6 rfl) ?_
                  obtain ⟨_, r30⟩ := t_rec tf21 hu0 (by decide) wf_60
                  refine k_i (r_V C h hl (As := [.int u3, .int v55_6, .int v72_7]) (rest := []) (s_X11_failsAta l D G b0 τ f21 tf21 u0 hu0 u3 hu3 v55_6 jv72_6 v72_7 i8) r30 (Cn := RX11) (T := TX11) (N := 32) rfl rfl mk_X11_failsAt w_1981 w_1983 w_87 w_1984 ⟨Nat.le_of_ble_eq_true rfl, Nat.le_of_ble_eq_true rfl⟩ rfl (Nat.le_of_ble_eq_true rfl) ⟨Nat.le_of_ble_eq_true rfl, Nat.le_of_ble_eq_true rfl⟩ rfl dX11_least_123) h (fun r31 f32 H locs p33 h => ?_)
                  obtain ⟨ir31, tf32, ogf32⟩ := p33
                  have egf32 := Fr.nil2 ogf32
                  subst egf32
                  refine lv_iconst (v := -1) hx hb dX11_least_126 (by decide) ?_
                  refine lv_icmp_eq (tgt := 133) hx hb dX11_least_127 (by decide) (fun c34 => ?_) (fun c34 => ?_)
                  · have c35 : r31.toInt = (-1) := congrArg Int32.toInt c34
                    have i36 : iv r31 (-1) (-1) := iv_Q c35 ir31 (iv_k (x := (-1)) (k := (-1)) rfl) (by decide)
                    refine lv_bipush (v := 10) hx hb dX11_least_133 (by decide) ?_
                    refine lv_iload hx hb dX11_least_135 (lv_at hl 5 rfl) ?_
                    refine i_cmul hx hb dX11_least_137 (k := 10) rfl jv72_6 (lo := 10) (hi := 40) (by decide) (fun z39 ez39 mz39 iz39 => ?_)
                    refine lv_iload hx hb dX11_least_138 (lv_at hl 6 rfl) ?_
                    refine i_add hx hb dX11_least_140 iz39 i8 (lo := 10) (hi := 44) (by decide) (fun z40 ez40 mz40 iz40 => ?_)
                    refine lv_istore (lv' := [(4, .int z40), (8, .int z12), (0, .ref u0), (3, .int u3), (5, .int v72_5), (6, .int v55_6), (7, .int v72_7)]) hx hb dX11_least_141 hl (by decide) rfl (fun ls hl => ?_)
                    refine lv_iload hx hb dX11_least_143 (lv_at hl 1 rfl) ?_
                    refine lv_istore (lv' := [(5, .int z12), (4, .int z40), (8, .int z12), (0, .ref u0), (3, .int u3), (6, .int v55_6), (7, .int v72_7)]) hx hb dX11_least_145 hl (by decide) rfl (fun ls hl => ?_)
                    refine i_inc hx hb dX11_least_147 hl (k := 6) rfl i8 rfl (lo := 1) (hi := 5) (by decide) (by decide) (lv' := fun v => [(7, .int v), (5, .int z12), (4, .int z40), (8, .int z12), (0, .ref u0), (3, .int u3), (6, .int v55_6)]) (fun _ => rfl) (fun z41 ls ez41 mz41 iz41 hl => ?_)
                    refine lv_goto (tgt := 72) hx hb dX11_least_150 (by decide) ?_
                    exact ih72 ls f21 H locs z40 z12 z41 (show 5 - z41.toInt < _ by omega) (lv_cons hl 4 rfl (lv_cons hl 5 rfl (lv_cons hl 2 rfl (lv_cons hl 1 rfl (lv_cons hl 6 rfl (lv_cons hl 0 rfl (lv_nil hl))))))) h tf21 of21 (iv_w iz40 (by decide)) (iv_w iz12 (by decide)) jv72_6 (iv_w iz41 (by decide)) k23
                  · have c37 : r31.toInt ≠ (-1) := fun z_ => c34 (Int32.toInt_inj.mp z_)
                    have i38 : iv r31 0 59 := iv_Nl c37 ir31 (by decide)
                    refine lv_goto (tgt := 147) hx hb dX11_least_130 (by decide) ?_
                    refine i_inc hx hb dX11_least_147 hl (k := 6) rfl i8 rfl (lo := 1) (hi := 5) (by decide) (by decide) (lv' := fun v => [(7, .int v), (8, .int z12), (0, .ref u0), (3, .int u3), (4, .int v72_4), (5, .int v72_5), (6, .int v55_6)]) (fun _ => rfl) (fun z42 ls ez42 mz42 iz42 hl => ?_)
                    refine lv_goto (tgt := 72) hx hb dX11_least_150 (by decide) ?_
                    exact ih72 ls f21 H locs v72_4 v72_5 z42 (show 5 - z42.toInt < _ by omega) (lv_cons hl 2 rfl (lv_cons hl 3 rfl (lv_cons hl 4 rfl (lv_cons hl 5 rfl (lv_cons hl 6 rfl (lv_cons hl 0 rfl (lv_nil hl))))))) h tf21 of21 iv72_4 (iv_w i17 (by decide)) jv72_6 (iv_w iz42 (by decide)) k23
      refine lv_iload hx hb dX11_least_55 (lv_at hl 4 rfl) ?_
      refine lv_iload_n hx hb dX11_least_57 rfl (lv_at hl 1 rfl) ?_
      refine lv_if_ne (tgt := 65) hx hb dX11_least_58 (by decide) (fun c43 => ?_) (fun c43 => ?_)
      · have c44 : u3.toInt ≠ 0 := fun z_ => c43 (Int32.toInt_inj.mp z_)
        exact (iv_cn_ c44 hu3 (iv_k (x := 0) (k := 0) rfl) (by decide)).elim
      · have c45 : u3.toInt = 0 := congrArg Int32.toInt c43
        refine lv_iconst (v := 4) hx hb dX11_least_61 (by decide) ?_
        refine lv_goto (tgt := 66) hx hb dX11_least_62 (by decide) ?_
        refine lv_icmp_gt (tgt := 159) hx hb dX11_least_66 (by decide) (fun c46 => ?_) (fun c46 => ?_)
        · have c47 : 4 < v55_6.toInt := Int32.lt_iff_toInt_lt.mp c46
          have i48 : iv v55_6 5 5 := iv_Lr c47 (iv_k (x := 4) (k := 4) rfl) iv55_6 (by decide)
          refine lv_iload hx hb dX11_least_159 (lv_at hl 2 rfl) ?_
          exact u_iret C h hr hQ (⟨(iv_w iv55_4 (by decide)), t_55, o_55, k55_u0_NG⟩) (Nat.le_of_ble_eq_true rfl) (Nat.le_of_ble_eq_true rfl) dX11_least_161
        · have c49 : v55_6.toInt ≤ 4 := Int32.le_iff_toInt_le.mp (iv_nlt c46)
          have i50 : iv v55_6 1 4 := iv_El c49 iv55_6 (iv_k (x := 4) (k := 4) rfl) (by decide)
          refine lv_iconst (v := 0) hx hb dX11_least_69 (by decide) ?_
          refine lv_istore (lv' := [(7, .int 0), (0, .ref u0), (3, .int u3), (4, .int v55_4), (5, .int v55_5), (6, .int v55_6)]) hx hb dX11_least_70 hl (by decide) rfl (fun ls hl => ?_)
          exact L72 6 ls f_55 H locs v55_4 v55_5 0 (by decide) (lv_cons hl 1 rfl (lv_cons hl 2 rfl (lv_cons hl 3 rfl (lv_cons hl 4 rfl (lv_cons hl 5 rfl (lv_cons hl 0 rfl (lv_nil hl))))))) h t_55 o_55 iv55_4 iv55_5 i50 ⟨by decide, by decide⟩ k55_u0_NG
  refine lv_aload_n hx hb dX11_least_0 rfl (lv_at hl 0 rfl) ?_
  refine lv_iconst (v := 0) hx hb dX11_least_1 (by decide) ?_
  refine t_put C h t o hu0 (by decide) (by decide) (by decide) wf_60 fw_60 (k := 0) rfl flw_X11_75 (Or.inr ⟨_, _, _, rfl, rfl⟩) (v := .int 0) rfl rfl ⟨_, rfl, ⟨by decide, by decide⟩⟩ dX11_least_2 (fun f51 H locs h tf51 of51 hq ha_ hn_ hk_ => ?_)
  have k52 := NGs.pk hNG hk_ (by decide) (by decide)
  have k53 := ha_
  refine lv_aload_n hx hb dX11_least_5 rfl (lv_at hl 0 rfl) ?_
  refine lv_iload_n hx hb dX11_least_6 rfl (lv_at hl 1 rfl) ?_
  obtain ⟨_, r54⟩ := t_rec tf51 hu0 (by decide) wf_60
  refine k_i (r_V C h hl (As := [.int u1]) (rest := []) (s_X11_isSet l D G b0 τ f51 tf51 u0 hu0 u1 hu1) r54 (Cn := RX11) (T := TX11) (N := 32) rfl rfl mk_X11_isSet w_1620 w_1622 w_51 w_1623 ⟨Nat.le_of_ble_eq_true rfl, Nat.le_of_ble_eq_true rfl⟩ rfl (Nat.le_of_ble_eq_true rfl) ⟨Nat.le_of_ble_eq_true rfl, Nat.le_of_ble_eq_true rfl⟩ rfl dX11_least_7) h (fun r55 f56 H locs p57 h => ?_)
  obtain ⟨ir55, tf56, ogf56, cnr55⟩ := p57
  have egf56 := Fr.nil2 ogf56
  subst egf56
  refine lv_if_eq (tgt := 35) hx hb dX11_least_10 (by decide) (fun c58 => ?_) (fun c58 => ?_)
  · have c59 : r55.toInt = 0 := congrArg Int32.toInt c58
    have i60 : iv r55 0 0 := iv_Q c59 ir55 (iv_k (x := 0) (k := 0) rfl) (by decide)
    refine lv_ldcw (v := -1000000) hx hb hown (hts _ w_1787) dX11_least_35 ?_
    exact u_iret C h hr hQ (⟨⟨by decide, by decide⟩, tf51, of51, k52⟩) (Nat.le_of_ble_eq_true rfl) (Nat.le_of_ble_eq_true rfl) dX11_least_38
  · have c61 : r55.toInt ≠ 0 := fun z_ => c58 (Int32.toInt_inj.mp z_)
    have i62 : iv r55 1 1 := iv_Nl c61 ir55 (by decide)
    have i63 := cnr55 c61
    refine lv_iload_n hx hb dX11_least_13 rfl (lv_at hl 2 rfl) ?_
    refine lv_i2l hx hb dX11_least_14 rfl (i_topL hu2 (fun w64 ew64 mw64 iw64 => ?_))
    refine lv_lconst (v := 0) hx hb dX11_least_15 (by decide) ?_
    refine lv_ldc2 (v := 4) hx hb hown (hts _ w_1730) dX11_least_16 ?_
    refine k_i (r_S C h hl (As := [.long w64, .long 0, .long 4]) (rest := []) (s_X11_isIn l D G b0 τ f51 tf51 w64 0 4) mk_X11_isIn w_1624 w_1625 w_1626 ⟨Nat.le_of_ble_eq_true rfl, Nat.le_of_ble_eq_true rfl⟩ rfl (Nat.le_of_ble_eq_true rfl) ⟨Nat.le_of_ble_eq_true rfl, Nat.le_of_ble_eq_true rfl⟩ rfl dX11_least_19) h (fun r65 f66 H locs p67 h => ?_)
    have n68 : (0 : Int64).toInt = 0 := rfl
    have n69 : (4 : Int64).toInt = 4 := rfl
    obtain ⟨ir65, tf66, ogf66, cnr65⟩ := p67
    have egf66 := Fr.nil2 ogf66
    subst egf66
    refine lv_if_eq (tgt := 35) hx hb dX11_least_22 (by decide) (fun c70 => ?_) (fun c70 => ?_)
    · have c71 : r65.toInt = 0 := congrArg Int32.toInt c70
      have i72 : iv r65 0 0 := iv_Q c71 ir65 (iv_k (x := 0) (k := 0) rfl) (by decide)
      refine lv_ldcw (v := -1000000) hx hb hown (hts _ w_1787) dX11_least_35 ?_
      exact u_iret C h hr hQ (⟨⟨by decide, by decide⟩, tf51, of51, k52⟩) (Nat.le_of_ble_eq_true rfl) (Nat.le_of_ble_eq_true rfl) dX11_least_38
    · have c73 : r65.toInt ≠ 0 := fun z_ => c70 (Int32.toInt_inj.mp z_)
      have i74 : iv r65 1 1 := iv_Nl c73 ir65 (by decide)
      obtain ⟨i75, i76⟩ := cnr65 c73
      have i77 : iv u2 0 4 := ⟨by omega, by omega⟩
      refine lv_iload_n hx hb dX11_least_25 rfl (lv_at hl 3 rfl) ?_
      refine lv_i2l hx hb dX11_least_26 rfl (i_topL hu3 (fun w78 ew78 mw78 iw78 => ?_))
      refine lv_lconst (v := 0) hx hb dX11_least_27 (by decide) ?_
      refine lv_lconst (v := 1) hx hb dX11_least_28 (by decide) ?_
      refine k_i (r_S C h hl (As := [.long w78, .long 0, .long 1]) (rest := []) (s_X11_isIn l D G b0 τ f51 tf51 w78 0 1) mk_X11_isIn w_1624 w_1625 w_1626 ⟨Nat.le_of_ble_eq_true rfl, Nat.le_of_ble_eq_true rfl⟩ rfl (Nat.le_of_ble_eq_true rfl) ⟨Nat.le_of_ble_eq_true rfl, Nat.le_of_ble_eq_true rfl⟩ rfl dX11_least_29) h (fun r79 f80 H locs p81 h => ?_)
      have n82 : (0 : Int64).toInt = 0 := rfl
      have n83 : (1 : Int64).toInt = 1 := rfl
      obtain ⟨ir79, tf80, ogf80, cnr79⟩ := p81
      have egf80 := Fr.nil2 ogf80
      subst egf80
      refine lv_if_ne (tgt := 39) hx hb dX11_least_32 (by decide) (fun c84 => ?_) (fun c84 => ?_)
      · have c85 : r79.toInt ≠ 0 := fun z_ => c84 (Int32.toInt_inj.mp z_)
        have i86 : iv r79 1 1 := iv_Nl c85 ir79 (by decide)
        obtain ⟨i87, i88⟩ := cnr79 c85
        refine lv_aload_n hx hb dX11_least_39 rfl (lv_at hl 0 rfl) ?_
        refine lv_iload_n hx hb dX11_least_40 rfl (lv_at hl 1 rfl) ?_
        refine lv_iload_n hx hb dX11_least_41 rfl (lv_at hl 2 rfl) ?_
        obtain ⟨_, r91⟩ := t_rec tf51 hu0 (by decide) wf_60
        refine k_v (r_V C h hl (As := [.int u1, .int u2]) (rest := []) (s_X11_laysAll l D G b0 τ f51 tf51 u0 hu0 u1 i63 u2 (iv_w i77 (by decide)) k52) r91 (Cn := RX11) (T := TX11) (N := 32) rfl rfl mk_X11_laysAll w_1942 w_1944 w_79 w_1945 ⟨Nat.le_of_ble_eq_true rfl, Nat.le_of_ble_eq_true rfl⟩ rfl (Nat.le_of_ble_eq_true rfl) ⟨Nat.le_of_ble_eq_true rfl, Nat.le_of_ble_eq_true rfl⟩ rfl dX11_least_42) h (fun f93 H locs p94 h => ?_)
        obtain ⟨tf93, ogf93, ngf93⟩ := p94
        have of93 : Fr [60, 67, 69, 72, 73, 74, 75, 76, 60001, 60013, 60014, 60015, 60028, 60029] τ f f93 := Fr.tr of51 ogf93 (by decide) (by decide)
        refine lv_iconst (v := -1) hx hb dX11_least_45 (by decide) ?_
        refine lv_istore (lv' := [(4, .int (-1)), (0, .ref u0), (1, .int u1), (2, .int u2), (3, .int u3)]) hx hb dX11_least_46 hl (by decide) rfl (fun ls hl => ?_)
        refine lv_bipush (v := 29) hx hb dX11_least_48 (by decide) ?_
        refine lv_istore (lv' := [(5, .int 29), (4, .int (-1)), (0, .ref u0), (1, .int u1), (2, .int u2), (3, .int u3)]) hx hb dX11_least_50 hl (by decide) rfl (fun ls hl => ?_)
        refine lv_iconst (v := 1) hx hb dX11_least_52 (by decide) ?_
        refine lv_istore (lv' := [(6, .int 1), (5, .int 29), (4, .int (-1)), (0, .ref u0), (1, .int u1), (2, .int u2), (3, .int u3)]) hx hb dX11_least_53 hl (by decide) rfl (fun ls hl => ?_)
        exact L55 5 ls f93 H locs (-1) 29 1 (by decide) (lv_cons hl 3 rfl (lv_cons hl 6 rfl (lv_cons hl 2 rfl (lv_cons hl 1 rfl (lv_cons hl 0 rfl (lv_nil hl)))))) h tf93 of93 ⟨by decide, by decide⟩ ⟨by decide, by decide⟩ ⟨by decide, by decide⟩ ngf93
      · have c89 : r79.toInt = 0 := congrArg Int32.toInt c84
        have i90 : iv r79 0 0 := iv_Q c89 ir79 (iv_k (x := 0) (k := 0) rfl) (by decide)
        refine lv_ldcw (v := -1000000) hx hb hown (hts _ w_1787) dX11_least_35 ?_
        exact u_iret C h hr hQ (⟨⟨by decide, by decide⟩, tf51, of51, k52⟩) (Nat.le_of_ble_eq_true rfl) (Nat.le_of_ble_eq_true rfl) dX11_least_38
abbrev rm_s_X11_leastb : Room := { frames := 5, cells := 0, slots := 0, locals := 122 }
set_option maxRecDepth 100000 in
set_option maxHeartbeats 4000000 in
theorem s_X11_leastb (l : Launch) (D : va_G) (G : Nat → Nat) (b0 : Nat) (τ : Nat → Nat) (f : hM) (t : TI G 9 τ f) (u0 : Nat) (hu0 : τ u0 = 60) (u1 : Int32) (hu1 : iv u1 (-2147483648) 2147483647) (u2 : Int32) (hu2 : iv u2 (-2147483648) 2147483647) (u3 : Int32) (hu3 : iv u3 1 1) (hNG : NGs τ f u0) : mI l yX11_least cX11_least 9 (.int) rm_s_X11_leastb D G b0 f [.ref u0, .int u1, .int u2, .int u3] (fun r f1 => iv r (-2147483648) 2147483647 ∧ TI G 9 τ f1 ∧ Fr [60, 67, 69, 72, 73, 74, 75, 76, 60001, 60013, 60014, 60015, 60028, 60029] τ f f1 ∧ NGs τ f1 u0) := by
  refine met2 (own := RX11) (by decide) rfl (Nat.le_of_ble_eq_true rfl) ?_
  intro p e s m args below meth c ls Q hQ C hr hini hl h
  have hl : lv_has ls 9 [(0, .ref u0), (1, .int u1), (2, .int u2), (3, .int u3)] := hl
  obtain ⟨hx, hb, hml, hown, hts, hE0, hlk⟩ := id C
  have o := Fr.rf [60, 67, 69, 72, 73, 74, 75, 76, 60001, 60013, 60014, 60015, 60028, 60029] τ f
  have L55 : ∀ (n55 : Nat) (ls : Array Slot) (f_55 : hM) (H : Heap) (locs : List Loc) (v55_4 : Int32) (v55_5 : Int32) (v55_6 : Int32), 4 - v55_6.toInt < (n55 : Int) → lv_has ls 9 [(0, .ref u0), (3, .int u3), (4, .int v55_4), (5, .int v55_5), (6, .int v55_6)] → hw D b0 s.heap f_55 H locs → TI G 9 τ f_55 → Fr [60, 67, 69, 72, 73, 74, 75, 76, 60001, 60013, 60014, 60015, 60028, 60029] τ f f_55 → iv v55_4 (-1) 60 → iv v55_5 2 29 → iv v55_6 1 4 → NGs τ f_55 u0 → W p l e rm_s_X11_leastb s m args below meth c H locs 0 0 Q (F0 m 55 ls []) := by
    intro n55
    induction n55 with
    | zero => intro ls f_55 H locs v55_4 v55_5 v55_6 hm55 hl h t_55 o_55 iv55_4 iv55_5 iv55_6 k55_u0_NG; exact absurd hm55 (by omega)
    | succ n55 ih55 =>
      intro ls f_55 H locs v55_4 v55_5 v55_6 hm55 hl h t_55 o_55 iv55_4 iv55_5 iv55_6 k55_u0_NG
      have L72 : ∀ (n72 : Nat) (ls : Array Slot) (f_72 : hM) (H : Heap) (locs : List Loc) (v72_4 : Int32) (v72_5 : Int32) (v72_7 : Int32), 7 - v72_7.toInt < (n72 : Int) → lv_has ls 9 [(0, .ref u0), (3, .int u3), (4, .int v72_4), (5, .int v72_5), (6, .int v55_6), (7, .int v72_7)] → hw D b0 s.heap f_72 H locs → TI G 9 τ f_72 → Fr [60, 67, 69, 72, 73, 74, 75, 76, 60001, 60013, 60014, 60015, 60028, 60029] τ f f_72 → iv v72_4 (-1) 60 → iv v72_5 2 29 → iv v55_6 1 3 → iv v72_7 0 7 → NGs τ f_72 u0 → W p l e rm_s_X11_leastb s m args below meth c H locs 0 0 Q (F0 m 72 ls []) := by
        intro n72
        induction n72 with
        | zero => intro ls f_72 H locs v72_4 v72_5 v72_7 hm72 hl h t_72 o_72 iv72_4 iv72_5 jv72_6 iv72_7 k72_u0_NG; exact absurd hm72 (by omega)
        | succ n72 ih72 =>
          intro ls f_72 H locs v72_4 v72_5 v72_7 hm72 hl h t_72 o_72 iv72_4 iv72_5 jv72_6 iv72_7 k72_u0_NG
          refine lv_iload hx hb dX11_least_72 (lv_at hl 5 rfl) ?_
          refine lv_iload_n hx hb dX11_least_74 rfl (lv_at hl 1 rfl) ?_
          refine lv_if_ne (tgt := 82) hx hb dX11_least_75 (by decide) (fun c1 => ?_) (fun c1 => ?_)
          · have c2 : u3.toInt ≠ 0 := fun z_ => c1 (Int32.toInt_inj.mp z_)
            refine lv_bipush (v := 6) hx hb dX11_least_82 (by decide) ?_
            refine lv_icmp_gt (tgt := 153) hx hb dX11_least_84 (by decide) (fun c4 => ?_) (fun c4 => ?_)
            · have c5 : 6 < v72_7.toInt := Int32.lt_iff_toInt_lt.mp c4
              have i6 : iv v72_7 7 7 := iv_Lr c5 (iv_k (x := 6) (k := 6) rfl) iv72_7 (by decide)
              refine i_inc hx hb dX11_least_153 hl (k := 4) rfl jv72_6 rfl (lo := 2) (hi := 4) (by decide) (by decide) (lv' := fun v => [(6, .int v), (0, .ref u0), (3, .int u3), (4, .int v72_4), (5, .int v72_5), (7, .int v72_7)]) (fun _ => rfl) (fun z9 ls ez9 mz9 iz9 hl => ?_)
              refine lv_goto (tgt := 55) hx hb dX11_least_156 (by decide) ?_
              exact ih55 ls f_72 H locs v72_4 v72_5 z9 (show 4 - z9.toInt < _ by omega) (lv_cons hl 1 rfl (lv_cons hl 2 rfl (lv_cons hl 3 rfl (lv_cons hl 4 rfl (lv_cons hl 0 rfl (lv_nil hl)))))) h t_72 o_72 iv72_4 iv72_5 (iv_w iz9 (by decide)) k72_u0_NG
            · have c7 : v72_7.toInt ≤ 6 := Int32.le_iff_toInt_le.mp (iv_nlt c4)
              have i8 : iv v72_7 0 6 := iv_El c7 iv72_7 (iv_k (x := 6) (k := 6) rfl) (by decide)
              refine lv_iload hx hb dX11_least_87 (lv_at hl 4 rfl) ?_
              refine lv_iconst (v := 1) hx hb dX11_least_89 (by decide) ?_
              refine i_addk hx hb dX11_least_90 jv72_6 (k := 1) rfl (lo := 2) (hi := 4) (by decide) (fun z10 ez10 mz10 iz10 => ?_)
              refine lv_iload hx hb dX11_least_91 (lv_at hl 5 rfl) ?_
              refine lv_iconst (v := 1) hx hb dX11_least_93 (by decide) ?_
              refine i_addk hx hb dX11_least_94 i8 (k := 1) rfl (lo := 1) (hi := 7) (by decide) (fun z11 ez11 mz11 iz11 => ?_)
              refine i_mulp hx hb dX11_least_95 iz10 iz11 (lo := 2) (hi := 28) (by decide) (fun z12 ez12 iz12 => ?_)
              refine lv_istore (lv' := [(8, .int z12), (0, .ref u0), (3, .int u3), (4, .int v72_4), (5, .int v72_5), (6, .int v55_6), (7, .int v72_7)]) hx hb dX11_least_96 hl (by decide) rfl (fun ls hl => ?_)
              refine lv_iload hx hb dX11_least_98 (lv_at hl 0 rfl) ?_
              refine lv_iload hx hb dX11_least_100 (lv_at hl 4 rfl) ?_
              refine lv_icmp_ge (tgt := 147) hx hb dX11_least_102 (by decide) (fun c13 => ?_) (fun c13 => ?_)
              · have c14 : v72_5.toInt ≤ z12.toInt := Int32.le_iff_toInt_le.mp c13
                have i15 : iv v72_5 2 28 := iv_El c14 iv72_5 iz12 (by decide)
                refine i_inc hx hb dX11_least_147 hl (k := 6) rfl i8 rfl (lo := 1) (hi := 7) (by decide) (by decide) (lv' := fun v => [(7, .int v), (8, .int z12), (0, .ref u0), (3, .int u3), (4, .int v72_4), (5, .int v72_5), (6, .int v55_6)]) (fun _ => rfl) (fun z18 ls ez18 mz18 iz18 hl => ?_)
                refine lv_goto (tgt := 72) hx hb dX11_least_150 (by decide) ?_
                exact ih72 ls f_72 H locs v72_4 v72_5 z18 (show 7 - z18.toInt < _ by omega) (lv_cons hl 2 rfl (lv_cons hl 3 rfl (lv_cons hl 4 rfl (lv_cons hl 5 rfl (lv_cons hl 6 rfl (lv_cons hl 0 rfl (lv_nil hl))))))) h t_72 o_72 iv72_4 (iv_w i15 (by decide)) jv72_6 (iv_w iz18 (by decide)) k72_u0_NG
              · have c16 : z12.toInt < v72_5.toInt := Int32.lt_iff_toInt_lt.mp (iv_nle c13)
                have i17 : iv v72_5 3 29 := iv_Lr c16 iz12 iv72_5 (by decide)
                refine lv_aload_n hx hb dX11_least_105 rfl (lv_at hl 1 rfl) ?_
                refine lv_iload_n hx hb dX11_least_106 rfl (lv_at hl 2 rfl) ?_
                refine lv_iload hx hb dX11_least_107 (lv_at hl 5 rfl) ?_
                refine lv_iload hx hb dX11_least_109 (lv_at hl 6 rfl) ?_
                obtain ⟨_, r19⟩ := t_rec t_72 hu0 (by decide) wf_60
                refine k_i (r_V C h hl (As := [.int u3, .int v55_6, .int v72_7]) (rest := []) (s_X11_guessesb l D G b0 τ f_72 t_72 u0 hu0 u3 hu3 v55_6 jv72_6 v72_7 i8) r19 (Cn := RX11) (T := TX11) (N := 32) rfl rfl mk_X11_guesses w_1950 w_1952 w_81 w_1953 ⟨Nat.le_of_ble_eq_true rfl, Nat.le_of_ble_eq_true rfl⟩ rfl (Nat.le_of_ble_eq_true rfl) ⟨Nat.le_of_ble_eq_true rfl, Nat.le_of_ble_eq_true rfl⟩ rfl dX11_least_111) h (fun r20 f21 H locs p22 h => ?_)
                obtain ⟨ir20, tf21, ogf21⟩ := p22
                have of21 : Fr [60, 67, 69, 72, 73, 74, 75, 76, 60001, 60013, 60014, 60015, 60028, 60029] τ f f21 := Fr.tr o_72 ogf21 (by decide) (by decide)
                have k23 := NGs.fr k72_u0_NG ogf21 hu0 (by decide)
                refine lv_if_eq (tgt := 147) hx hb dX11_least_114 (by decide) (fun c24 => ?_) (fun c24 => ?_)
                · have c25 : r20.toInt = 0 := congrArg Int32.toInt c24
                  have i26 : iv r20 0 0 := iv_Q c25 ir20 (iv_k (x := 0) (k := 0) rfl) (by decide)
                  refine i_inc hx hb dX11_least_147 hl (k := 6) rfl i8 rfl (lo := 1) (hi := 7) (by decide) (by decide) (lv' := fun v => [(7, .int v), (8, .int z12), (0, .ref u0), (3, .int u3), (4, .int v72_4), (5, .int v72_5), (6, .int v55_6)]) (fun _ => rfl) (fun z29 ls ez29 mz29 iz29 hl => ?_)
                  refine lv_goto (tgt := 72) hx hb dX11_least_150 (by decide) ?_
                  exact ih72 ls f21 H locs v72_4 v72_5 z29 (show 7 - z29.toInt < _ by omega) (lv_cons hl 2 rfl (lv_cons hl 3 rfl (lv_cons hl 4 rfl (lv_cons hl 5 rfl (lv_cons hl 6 rfl (lv_cons hl 0 rfl (lv_nil hl))))))) h tf21 of21 iv72_4 (iv_w i17 (by decide)) jv72_6 (iv_w iz29 (by decide)) k23
                · have c27 : r20.toInt ≠ 0 := fun z_ => c24 (Int32.toInt_inj.mp z_)
                  have i28 : iv r20 1 1 := iv_Nl c27 ir20 (by decide)
                  refine lv_aload_n hx hb dX11_least_117 rfl (lv_at hl 1 rfl) ?_
                  refine lv_iload_n hx hb dX11_least_118 rfl (lv_at hl 2 rfl) ?_
                  refine lv_iload hx hb dX11_least_119 (lv_at hl 5 rfl) ?_
                  refine lv_iload hx hb dX11_least_121 (lv_at hl 6 rfl) ?_
                  obtain ⟨_, r30⟩ := t_rec tf21 hu0 (by decide) wf_60
                  refine k_i (r_V C h hl (As := [.int u3, .int v55_6, .int v72_7]) (rest := []) (s_X11_failsAtb l D G b0 τ f21 tf21 u0 hu0 u3 hu3 v55_6 jv72_6 v72_7 i8) r30 (Cn := RX11) (T := TX11) (N := 32) rfl rfl mk_X11_failsAt w_1981 w_1983 w_87 w_1984 ⟨Nat.le_of_ble_eq_true rfl, Nat.le_of_ble_eq_true rfl⟩ rfl (Nat.le_of_ble_eq_true rfl) ⟨Nat.le_of_ble_eq_true rfl, Nat.le_of_ble_eq_true rfl⟩ rfl dX11_least_123) h (fun r31 f32 H locs p33 h => ?_)
                  obtain ⟨ir31, tf32, ogf32⟩ := p33
                  have egf32 := Fr.nil2 ogf32
                  subst egf32
                  refine lv_iconst (v := -1) hx hb dX11_least_126 (by decide) ?_
                  refine lv_icmp_eq (tgt := 133) hx hb dX11_least_127 (by decide) (fun c34 => ?_) (fun c34 => ?_)
                  · have c35 : r31.toInt = (-1) := congrArg Int32.toInt c34
                    have i36 : iv r31 (-1) (-1) := iv_Q c35 ir31 (iv_k (x := (-1)) (k := (-1)) rfl) (by decide)
                    refine lv_bipush (v := 10) hx hb dX11_least_133 (by decide) ?_
                    refine lv_iload hx hb dX11_least_135 (lv_at hl 5 rfl) ?_
                    refine i_cmul hx hb dX11_least_137 (k := 10) rfl jv72_6 (lo := 10) (hi := 30) (by decide) (fun z39 ez39 mz39 iz39 => ?_)
                    refine lv_iload hx hb dX11_least_138 (lv_at hl 6 rfl) ?_
                    refine i_add hx hb dX11_least_140 iz39 i8 (lo := 10) (hi := 36) (by decide) (fun z40 ez40 mz40 iz40 => ?_)
                    refine lv_istore (lv' := [(4, .int z40), (8, .int z12), (0, .ref u0), (3, .int u3), (5, .int v72_5), (6, .int v55_6), (7, .int v72_7)]) hx hb dX11_least_141 hl (by decide) rfl (fun ls hl => ?_)
                    refine lv_iload hx hb dX11_least_143 (lv_at hl 1 rfl) ?_
                    refine lv_istore (lv' := [(5, .int z12), (4, .int z40), (8, .int z12), (0, .ref u0), (3, .int u3), (6, .int v55_6), (7, .int v72_7)]) hx hb dX11_least_145 hl (by decide) rfl (fun ls hl => ?_)
                    refine i_inc hx hb dX11_least_147 hl (k := 6) rfl i8 rfl (lo := 1) (hi := 7) (by decide) (by decide) (lv' := fun v => [(7, .int v), (5, .int z12), (4, .int z40), (8, .int z12), (0, .ref u0), (3, .int u3), (6, .int v55_6)]) (fun _ => rfl) (fun z41 ls ez41 mz41 iz41 hl => ?_)
                    refine lv_goto (tgt := 72) hx hb dX11_least_150 (by decide) ?_
                    exact ih72 ls f21 H locs z40 z12 z41 (show 7 - z41.toInt < _ by omega) (lv_cons hl 4 rfl (lv_cons hl 5 rfl (lv_cons hl 2 rfl (lv_cons hl 1 rfl (lv_cons hl 6 rfl (lv_cons hl 0 rfl (lv_nil hl))))))) h tf21 of21 (iv_w iz40 (by decide)) (iv_w iz12 (by decide)) jv72_6 (iv_w iz41 (by decide)) k23
                  · have c37 : r31.toInt ≠ (-1) := fun z_ => c34 (Int32.toInt_inj.mp z_)
                    have i38 : iv r31 0 60 := iv_Nl c37 ir31 (by decide)
                    refine lv_goto (tgt := 147) hx hb dX11_least_130 (by decide) ?_
                    refine i_inc hx hb dX11_least_147 hl (k := 6) rfl i8 rfl (lo := 1) (hi := 7) (by decide) (by decide) (lv' := fun v => [(7, .int v), (8, .int z12), (0, .ref u0), (3, .int u3), (4, .int v72_4), (5, .int v72_5), (6, .int v55_6)]) (fun _ => rfl) (fun z42 ls ez42 mz42 iz42 hl => ?_)
                    refine lv_goto (tgt := 72) hx hb dX11_least_150 (by decide) ?_
                    exact ih72 ls f21 H locs v72_4 v72_5 z42 (show 7 - z42.toInt < _ by omega) (lv_cons hl 2 rfl (lv_cons hl 3 rfl (lv_cons hl 4 rfl (lv_cons hl 5 rfl (lv_cons hl 6 rfl (lv_cons hl 0 rfl (lv_nil hl))))))) h tf21 of21 iv72_4 (iv_w i17 (by decide)) jv72_6 (iv_w iz42 (by decide)) k23
          · have c3 : u3.toInt = 0 := congrArg Int32.toInt c1
            exact (iv_cq_ c3 hu3 (iv_k (x := 0) (k := 0) rfl) (by decide)).elim
      refine lv_iload hx hb dX11_least_55 (lv_at hl 4 rfl) ?_
      refine lv_iload_n hx hb dX11_least_57 rfl (lv_at hl 1 rfl) ?_
      refine lv_if_ne (tgt := 65) hx hb dX11_least_58 (by decide) (fun c43 => ?_) (fun c43 => ?_)
      · have c44 : u3.toInt ≠ 0 := fun z_ => c43 (Int32.toInt_inj.mp z_)
        refine lv_iconst (v := 3) hx hb dX11_least_65 (by decide) ?_
        refine lv_icmp_gt (tgt := 159) hx hb dX11_least_66 (by decide) (fun c46 => ?_) (fun c46 => ?_)
        · have c47 : 3 < v55_6.toInt := Int32.lt_iff_toInt_lt.mp c46
          have i48 : iv v55_6 4 4 := iv_Lr c47 (iv_k (x := 3) (k := 3) rfl) iv55_6 (by decide)
          refine lv_iload hx hb dX11_least_159 (lv_at hl 2 rfl) ?_
          exact u_iret C h hr hQ (⟨(iv_w iv55_4 (by decide)), t_55, o_55, k55_u0_NG⟩) (Nat.le_of_ble_eq_true rfl) (Nat.le_of_ble_eq_true rfl) dX11_least_161
        · have c49 : v55_6.toInt ≤ 3 := Int32.le_iff_toInt_le.mp (iv_nlt c46)
          have i50 : iv v55_6 1 3 := iv_El c49 iv55_6 (iv_k (x := 3) (k := 3) rfl) (by decide)
          refine lv_iconst (v := 0) hx hb dX11_least_69 (by decide) ?_
          refine lv_istore (lv' := [(7, .int 0), (0, .ref u0), (3, .int u3), (4, .int v55_4), (5, .int v55_5), (6, .int v55_6)]) hx hb dX11_least_70 hl (by decide) rfl (fun ls hl => ?_)
          exact L72 8 ls f_55 H locs v55_4 v55_5 0 (by decide) (lv_cons hl 1 rfl (lv_cons hl 2 rfl (lv_cons hl 3 rfl (lv_cons hl 4 rfl (lv_cons hl 5 rfl (lv_cons hl 0 rfl (lv_nil hl))))))) h t_55 o_55 iv55_4 iv55_5 i50 ⟨by decide, by decide⟩ k55_u0_NG
      · have c45 : u3.toInt = 0 := congrArg Int32.toInt c43
        exact (iv_cq_ c45 hu3 (iv_k (x := 0) (k := 0) rfl) (by decide)).elim
  refine lv_aload_n hx hb dX11_least_0 rfl (lv_at hl 0 rfl) ?_
  refine lv_iconst (v := 0) hx hb dX11_least_1 (by decide) ?_
  refine t_put C h t o hu0 (by decide) (by decide) (by decide) wf_60 fw_60 (k := 0) rfl flw_X11_75 (Or.inr ⟨_, _, _, rfl, rfl⟩) (v := .int 0) rfl rfl ⟨_, rfl, ⟨by decide, by decide⟩⟩ dX11_least_2 (fun f51 H locs h tf51 of51 hq ha_ hn_ hk_ => ?_)
  have k52 := NGs.pk hNG hk_ (by decide) (by decide)
  have k53 := ha_
  refine lv_aload_n hx hb dX11_least_5 rfl (lv_at hl 0 rfl) ?_
  refine lv_iload_n hx hb dX11_least_6 rfl (lv_at hl 1 rfl) ?_
  obtain ⟨_, r54⟩ := t_rec tf51 hu0 (by decide) wf_60
  refine k_i (r_V C h hl (As := [.int u1]) (rest := []) (s_X11_isSet l D G b0 τ f51 tf51 u0 hu0 u1 hu1) r54 (Cn := RX11) (T := TX11) (N := 32) rfl rfl mk_X11_isSet w_1620 w_1622 w_51 w_1623 ⟨Nat.le_of_ble_eq_true rfl, Nat.le_of_ble_eq_true rfl⟩ rfl (Nat.le_of_ble_eq_true rfl) ⟨Nat.le_of_ble_eq_true rfl, Nat.le_of_ble_eq_true rfl⟩ rfl dX11_least_7) h (fun r55 f56 H locs p57 h => ?_)
  obtain ⟨ir55, tf56, ogf56, cnr55⟩ := p57
  have egf56 := Fr.nil2 ogf56
  subst egf56
  refine lv_if_eq (tgt := 35) hx hb dX11_least_10 (by decide) (fun c58 => ?_) (fun c58 => ?_)
  · have c59 : r55.toInt = 0 := congrArg Int32.toInt c58
    have i60 : iv r55 0 0 := iv_Q c59 ir55 (iv_k (x := 0) (k := 0) rfl) (by decide)
    refine lv_ldcw (v := -1000000) hx hb hown (hts _ w_1787) dX11_least_35 ?_
    exact u_iret C h hr hQ (⟨⟨by decide, by decide⟩, tf51, of51, k52⟩) (Nat.le_of_ble_eq_true rfl) (Nat.le_of_ble_eq_true rfl) dX11_least_38
  · have c61 : r55.toInt ≠ 0 := fun z_ => c58 (Int32.toInt_inj.mp z_)
    have i62 : iv r55 1 1 := iv_Nl c61 ir55 (by decide)
    have i63 := cnr55 c61
    refine lv_iload_n hx hb dX11_least_13 rfl (lv_at hl 2 rfl) ?_
    refine lv_i2l hx hb dX11_least_14 rfl (i_topL hu2 (fun w64 ew64 mw64 iw64 => ?_))
    refine lv_lconst (v := 0) hx hb dX11_least_15 (by decide) ?_
    refine lv_ldc2 (v := 4) hx hb hown (hts _ w_1730) dX11_least_16 ?_
    refine k_i (r_S C h hl (As := [.long w64, .long 0, .long 4]) (rest := []) (s_X11_isIn l D G b0 τ f51 tf51 w64 0 4) mk_X11_isIn w_1624 w_1625 w_1626 ⟨Nat.le_of_ble_eq_true rfl, Nat.le_of_ble_eq_true rfl⟩ rfl (Nat.le_of_ble_eq_true rfl) ⟨Nat.le_of_ble_eq_true rfl, Nat.le_of_ble_eq_true rfl⟩ rfl dX11_least_19) h (fun r65 f66 H locs p67 h => ?_)
    have n68 : (0 : Int64).toInt = 0 := rfl
    have n69 : (4 : Int64).toInt = 4 := rfl
    obtain ⟨ir65, tf66, ogf66, cnr65⟩ := p67
    have egf66 := Fr.nil2 ogf66
    subst egf66
    refine lv_if_eq (tgt := 35) hx hb dX11_least_22 (by decide) (fun c70 => ?_) (fun c70 => ?_)
    · have c71 : r65.toInt = 0 := congrArg Int32.toInt c70
      have i72 : iv r65 0 0 := iv_Q c71 ir65 (iv_k (x := 0) (k := 0) rfl) (by decide)
      refine lv_ldcw (v := -1000000) hx hb hown (hts _ w_1787) dX11_least_35 ?_
      exact u_iret C h hr hQ (⟨⟨by decide, by decide⟩, tf51, of51, k52⟩) (Nat.le_of_ble_eq_true rfl) (Nat.le_of_ble_eq_true rfl) dX11_least_38
    · have c73 : r65.toInt ≠ 0 := fun z_ => c70 (Int32.toInt_inj.mp z_)
      have i74 : iv r65 1 1 := iv_Nl c73 ir65 (by decide)
      obtain ⟨i75, i76⟩ := cnr65 c73
      have i77 : iv u2 0 4 := ⟨by omega, by omega⟩
      refine lv_iload_n hx hb dX11_least_25 rfl (lv_at hl 3 rfl) ?_
      refine lv_i2l hx hb dX11_least_26 rfl (i_topL hu3 (fun w78 ew78 mw78 iw78 => ?_))
      refine lv_lconst (v := 0) hx hb dX11_least_27 (by decide) ?_
      refine lv_lconst (v := 1) hx hb dX11_least_28 (by decide) ?_
      refine k_i (r_S C h hl (As := [.long w78, .long 0, .long 1]) (rest := []) (s_X11_isIn l D G b0 τ f51 tf51 w78 0 1) mk_X11_isIn w_1624 w_1625 w_1626 ⟨Nat.le_of_ble_eq_true rfl, Nat.le_of_ble_eq_true rfl⟩ rfl (Nat.le_of_ble_eq_true rfl) ⟨Nat.le_of_ble_eq_true rfl, Nat.le_of_ble_eq_true rfl⟩ rfl dX11_least_29) h (fun r79 f80 H locs p81 h => ?_)
      have n82 : (0 : Int64).toInt = 0 := rfl
      have n83 : (1 : Int64).toInt = 1 := rfl
      obtain ⟨ir79, tf80, ogf80, cnr79⟩ := p81
      have egf80 := Fr.nil2 ogf80
      subst egf80
      refine lv_if_ne (tgt := 39) hx hb dX11_least_32 (by decide) (fun c84 => ?_) (fun c84 => ?_)
      · have c85 : r79.toInt ≠ 0 := fun z_ => c84 (Int32.toInt_inj.mp z_)
        have i86 : iv r79 1 1 := iv_Nl c85 ir79 (by decide)
        obtain ⟨i87, i88⟩ := cnr79 c85
        refine lv_aload_n hx hb dX11_least_39 rfl (lv_at hl 0 rfl) ?_
        refine lv_iload_n hx hb dX11_least_40 rfl (lv_at hl 1 rfl) ?_
        refine lv_iload_n hx hb dX11_least_41 rfl (lv_at hl 2 rfl) ?_
        obtain ⟨_, r91⟩ := t_rec tf51 hu0 (by decide) wf_60
        refine k_v (r_V C h hl (As := [.int u1, .int u2]) (rest := []) (s_X11_laysAll l D G b0 τ f51 tf51 u0 hu0 u1 i63 u2 (iv_w i77 (by decide)) k52) r91 (Cn := RX11) (T := TX11) (N := 32) rfl rfl mk_X11_laysAll w_1942 w_1944 w_79 w_1945 ⟨Nat.le_of_ble_eq_true rfl, Nat.le_of_ble_eq_true rfl⟩ rfl (Nat.le_of_ble_eq_true rfl) ⟨Nat.le_of_ble_eq_true rfl, Nat.le_of_ble_eq_true rfl⟩ rfl dX11_least_42) h (fun f93 H locs p94 h => ?_)
        obtain ⟨tf93, ogf93, ngf93⟩ := p94
        have of93 : Fr [60, 67, 69, 72, 73, 74, 75, 76, 60001, 60013, 60014, 60015, 60028, 60029] τ f f93 := Fr.tr of51 ogf93 (by decide) (by decide)
        refine lv_iconst (v := -1) hx hb dX11_least_45 (by decide) ?_
        refine lv_istore (lv' := [(4, .int (-1)), (0, .ref u0), (1, .int u1), (2, .int u2), (3, .int u3)]) hx hb dX11_least_46 hl (by decide) rfl (fun ls hl => ?_)
        refine lv_bipush (v := 29) hx hb dX11_least_48 (by decide) ?_
        refine lv_istore (lv' := [(5, .int 29), (4, .int (-1)), (0, .ref u0), (1, .int u1), (2, .int u2), (3, .int u3)]) hx hb dX11_least_50 hl (by decide) rfl (fun ls hl => ?_)
        refine lv_iconst (v := 1) hx hb dX11_least_52 (by decide) ?_
        refine lv_istore (lv' := [(6, .int 1), (5, .int 29), (4, .int (-1)), (0, .ref u0), (1, .int u1), (2, .int u2), (3, .int u3)]) hx hb dX11_least_53 hl (by decide) rfl (fun ls hl => ?_)
        exact L55 4 ls f93 H locs (-1) 29 1 (by decide) (lv_cons hl 3 rfl (lv_cons hl 6 rfl (lv_cons hl 2 rfl (lv_cons hl 1 rfl (lv_cons hl 0 rfl (lv_nil hl)))))) h tf93 of93 ⟨by decide, by decide⟩ ⟨by decide, by decide⟩ ⟨by decide, by decide⟩ ngf93
      · have c89 : r79.toInt = 0 := congrArg Int32.toInt c84
        have i90 : iv r79 0 0 := iv_Q c89 ir79 (iv_k (x := 0) (k := 0) rfl) (by decide)
        refine lv_ldcw (v := -1000000) hx hb hown (hts _ w_1787) dX11_least_35 ?_
        exact u_iret C h hr hQ (⟨⟨by decide, by decide⟩, tf51, of51, k52⟩) (Nat.le_of_ble_eq_true rfl) (Nat.le_of_ble_eq_true rfl) dX11_least_38
abbrev rm_s_X11_leastc : Room := { frames := 5, cells := 0, slots := 0, locals := 122 }
set_option maxRecDepth 100000 in
set_option maxHeartbeats 4000000 in
theorem s_X11_leastc (l : Launch) (D : va_G) (G : Nat → Nat) (b0 : Nat) (τ : Nat → Nat) (f : hM) (t : TI G 9 τ f) (u0 : Nat) (hu0 : τ u0 = 60) (u1 : Int32) (hu1 : iv u1 (-2147483648) 2147483647) (u2 : Int32) (hu2 : iv u2 (-2147483648) 2147483647) (u3 : Int32) (hu3 : iv u3 2 2147483647) (hNG : NGs τ f u0) : mI l yX11_least cX11_least 9 (.int) rm_s_X11_leastc D G b0 f [.ref u0, .int u1, .int u2, .int u3] (fun r f1 => iv r (-2147483648) 2147483647 ∧ TI G 9 τ f1 ∧ Fr [60, 67, 69, 72, 73, 74, 75, 76, 60001, 60013, 60014, 60015, 60028, 60029] τ f f1 ∧ NGs τ f1 u0) := by
  refine met2 (own := RX11) (by decide) rfl (Nat.le_of_ble_eq_true rfl) ?_
  intro p e s m args below meth c ls Q hQ C hr hini hl h
  have hl : lv_has ls 9 [(0, .ref u0), (1, .int u1), (2, .int u2), (3, .int u3)] := hl
  obtain ⟨hx, hb, hml, hown, hts, hE0, hlk⟩ := id C
  have o := Fr.rf [60, 67, 69, 72, 73, 74, 75, 76, 60001, 60013, 60014, 60015, 60028, 60029] τ f
  refine lv_aload_n hx hb dX11_least_0 rfl (lv_at hl 0 rfl) ?_
  refine lv_iconst (v := 0) hx hb dX11_least_1 (by decide) ?_
  refine t_put C h t o hu0 (by decide) (by decide) (by decide) wf_60 fw_60 (k := 0) rfl flw_X11_75 (Or.inr ⟨_, _, _, rfl, rfl⟩) (v := .int 0) rfl rfl ⟨_, rfl, ⟨by decide, by decide⟩⟩ dX11_least_2 (fun f1 H locs h tf1 of1 hq ha_ hn_ hk_ => ?_)
  have k2 := NGs.pk hNG hk_ (by decide) (by decide)
  have k3 := ha_
  refine lv_aload_n hx hb dX11_least_5 rfl (lv_at hl 0 rfl) ?_
  refine lv_iload_n hx hb dX11_least_6 rfl (lv_at hl 1 rfl) ?_
  obtain ⟨_, r4⟩ := t_rec tf1 hu0 (by decide) wf_60
  refine k_i (r_V C h hl (As := [.int u1]) (rest := []) (s_X11_isSet l D G b0 τ f1 tf1 u0 hu0 u1 hu1) r4 (Cn := RX11) (T := TX11) (N := 32) rfl rfl mk_X11_isSet w_1620 w_1622 w_51 w_1623 ⟨Nat.le_of_ble_eq_true rfl, Nat.le_of_ble_eq_true rfl⟩ rfl (Nat.le_of_ble_eq_true rfl) ⟨Nat.le_of_ble_eq_true rfl, Nat.le_of_ble_eq_true rfl⟩ rfl dX11_least_7) h (fun r5 f6 H locs p7 h => ?_)
  obtain ⟨ir5, tf6, ogf6, cnr5⟩ := p7
  have egf6 := Fr.nil2 ogf6
  subst egf6
  refine lv_if_eq (tgt := 35) hx hb dX11_least_10 (by decide) (fun c8 => ?_) (fun c8 => ?_)
  · have c9 : r5.toInt = 0 := congrArg Int32.toInt c8
    have i10 : iv r5 0 0 := iv_Q c9 ir5 (iv_k (x := 0) (k := 0) rfl) (by decide)
    refine lv_ldcw (v := -1000000) hx hb hown (hts _ w_1787) dX11_least_35 ?_
    exact u_iret C h hr hQ (⟨⟨by decide, by decide⟩, tf1, of1, k2⟩) (Nat.le_of_ble_eq_true rfl) (Nat.le_of_ble_eq_true rfl) dX11_least_38
  · have c11 : r5.toInt ≠ 0 := fun z_ => c8 (Int32.toInt_inj.mp z_)
    have i12 : iv r5 1 1 := iv_Nl c11 ir5 (by decide)
    have i13 := cnr5 c11
    refine lv_iload_n hx hb dX11_least_13 rfl (lv_at hl 2 rfl) ?_
    refine lv_i2l hx hb dX11_least_14 rfl (i_topL hu2 (fun w14 ew14 mw14 iw14 => ?_))
    refine lv_lconst (v := 0) hx hb dX11_least_15 (by decide) ?_
    refine lv_ldc2 (v := 4) hx hb hown (hts _ w_1730) dX11_least_16 ?_
    refine k_i (r_S C h hl (As := [.long w14, .long 0, .long 4]) (rest := []) (s_X11_isIn l D G b0 τ f1 tf1 w14 0 4) mk_X11_isIn w_1624 w_1625 w_1626 ⟨Nat.le_of_ble_eq_true rfl, Nat.le_of_ble_eq_true rfl⟩ rfl (Nat.le_of_ble_eq_true rfl) ⟨Nat.le_of_ble_eq_true rfl, Nat.le_of_ble_eq_true rfl⟩ rfl dX11_least_19) h (fun r15 f16 H locs p17 h => ?_)
    have n18 : (0 : Int64).toInt = 0 := rfl
    have n19 : (4 : Int64).toInt = 4 := rfl
    obtain ⟨ir15, tf16, ogf16, cnr15⟩ := p17
    have egf16 := Fr.nil2 ogf16
    subst egf16
    refine lv_if_eq (tgt := 35) hx hb dX11_least_22 (by decide) (fun c20 => ?_) (fun c20 => ?_)
    · have c21 : r15.toInt = 0 := congrArg Int32.toInt c20
      have i22 : iv r15 0 0 := iv_Q c21 ir15 (iv_k (x := 0) (k := 0) rfl) (by decide)
      refine lv_ldcw (v := -1000000) hx hb hown (hts _ w_1787) dX11_least_35 ?_
      exact u_iret C h hr hQ (⟨⟨by decide, by decide⟩, tf1, of1, k2⟩) (Nat.le_of_ble_eq_true rfl) (Nat.le_of_ble_eq_true rfl) dX11_least_38
    · have c23 : r15.toInt ≠ 0 := fun z_ => c20 (Int32.toInt_inj.mp z_)
      have i24 : iv r15 1 1 := iv_Nl c23 ir15 (by decide)
      obtain ⟨i25, i26⟩ := cnr15 c23
      have i27 : iv u2 0 4 := ⟨by omega, by omega⟩
      refine lv_iload_n hx hb dX11_least_25 rfl (lv_at hl 3 rfl) ?_
      refine lv_i2l hx hb dX11_least_26 rfl (i_topL hu3 (fun w28 ew28 mw28 iw28 => ?_))
      refine lv_lconst (v := 0) hx hb dX11_least_27 (by decide) ?_
      refine lv_lconst (v := 1) hx hb dX11_least_28 (by decide) ?_
      refine k_i (r_S C h hl (As := [.long w28, .long 0, .long 1]) (rest := []) (s_X11_isIn l D G b0 τ f1 tf1 w28 0 1) mk_X11_isIn w_1624 w_1625 w_1626 ⟨Nat.le_of_ble_eq_true rfl, Nat.le_of_ble_eq_true rfl⟩ rfl (Nat.le_of_ble_eq_true rfl) ⟨Nat.le_of_ble_eq_true rfl, Nat.le_of_ble_eq_true rfl⟩ rfl dX11_least_29) h (fun r29 f30 H locs p31 h => ?_)
      have n32 : (0 : Int64).toInt = 0 := rfl
      have n33 : (1 : Int64).toInt = 1 := rfl
      obtain ⟨ir29, tf30, ogf30, cnr29⟩ := p31
      have egf30 := Fr.nil2 ogf30
      subst egf30
      refine lv_if_ne (tgt := 39) hx hb dX11_least_32 (by decide) (fun c34 => ?_) (fun c34 => ?_)
      · have c35 : r29.toInt ≠ 0 := fun z_ => c34 (Int32.toInt_inj.mp z_)
        have i36 : iv r29 1 1 := iv_Nl c35 ir29 (by decide)
        obtain ⟨i37, i38⟩ := cnr29 c35
        exfalso; omega
      · have c39 : r29.toInt = 0 := congrArg Int32.toInt c34
        have i40 : iv r29 0 0 := iv_Q c39 ir29 (iv_k (x := 0) (k := 0) rfl) (by decide)
        refine lv_ldcw (v := -1000000) hx hb hown (hts _ w_1787) dX11_least_35 ?_
        exact u_iret C h hr hQ (⟨⟨by decide, by decide⟩, tf1, of1, k2⟩) (Nat.le_of_ble_eq_true rfl) (Nat.le_of_ble_eq_true rfl) dX11_least_38
abbrev rm_s_X11_leastd : Room := { frames := 5, cells := 0, slots := 0, locals := 122 }
set_option maxRecDepth 100000 in
set_option maxHeartbeats 4000000 in
theorem s_X11_leastd (l : Launch) (D : va_G) (G : Nat → Nat) (b0 : Nat) (τ : Nat → Nat) (f : hM) (t : TI G 9 τ f) (u0 : Nat) (hu0 : τ u0 = 60) (u1 : Int32) (hu1 : iv u1 (-2147483648) 2147483647) (u2 : Int32) (hu2 : iv u2 (-2147483648) 2147483647) (u3 : Int32) (hu3 : iv u3 (-2147483648) (-1)) (hNG : NGs τ f u0) : mI l yX11_least cX11_least 9 (.int) rm_s_X11_leastd D G b0 f [.ref u0, .int u1, .int u2, .int u3] (fun r f1 => iv r (-2147483648) 2147483647 ∧ TI G 9 τ f1 ∧ Fr [60, 67, 69, 72, 73, 74, 75, 76, 60001, 60013, 60014, 60015, 60028, 60029] τ f f1 ∧ NGs τ f1 u0) := by
  refine met2 (own := RX11) (by decide) rfl (Nat.le_of_ble_eq_true rfl) ?_
  intro p e s m args below meth c ls Q hQ C hr hini hl h
  have hl : lv_has ls 9 [(0, .ref u0), (1, .int u1), (2, .int u2), (3, .int u3)] := hl
  obtain ⟨hx, hb, hml, hown, hts, hE0, hlk⟩ := id C
  have o := Fr.rf [60, 67, 69, 72, 73, 74, 75, 76, 60001, 60013, 60014, 60015, 60028, 60029] τ f
  refine lv_aload_n hx hb dX11_least_0 rfl (lv_at hl 0 rfl) ?_
  refine lv_iconst (v := 0) hx hb dX11_least_1 (by decide) ?_
  refine t_put C h t o hu0 (by decide) (by decide) (by decide) wf_60 fw_60 (k := 0) rfl flw_X11_75 (Or.inr ⟨_, _, _, rfl, rfl⟩) (v := .int 0) rfl rfl ⟨_, rfl, ⟨by decide, by decide⟩⟩ dX11_least_2 (fun f1 H locs h tf1 of1 hq ha_ hn_ hk_ => ?_)
  have k2 := NGs.pk hNG hk_ (by decide) (by decide)
  have k3 := ha_
  refine lv_aload_n hx hb dX11_least_5 rfl (lv_at hl 0 rfl) ?_
  refine lv_iload_n hx hb dX11_least_6 rfl (lv_at hl 1 rfl) ?_
  obtain ⟨_, r4⟩ := t_rec tf1 hu0 (by decide) wf_60
  refine k_i (r_V C h hl (As := [.int u1]) (rest := []) (s_X11_isSet l D G b0 τ f1 tf1 u0 hu0 u1 hu1) r4 (Cn := RX11) (T := TX11) (N := 32) rfl rfl mk_X11_isSet w_1620 w_1622 w_51 w_1623 ⟨Nat.le_of_ble_eq_true rfl, Nat.le_of_ble_eq_true rfl⟩ rfl (Nat.le_of_ble_eq_true rfl) ⟨Nat.le_of_ble_eq_true rfl, Nat.le_of_ble_eq_true rfl⟩ rfl dX11_least_7) h (fun r5 f6 H locs p7 h => ?_)
  obtain ⟨ir5, tf6, ogf6, cnr5⟩ := p7
  have egf6 := Fr.nil2 ogf6
  subst egf6
  refine lv_if_eq (tgt := 35) hx hb dX11_least_10 (by decide) (fun c8 => ?_) (fun c8 => ?_)
  · have c9 : r5.toInt = 0 := congrArg Int32.toInt c8
    have i10 : iv r5 0 0 := iv_Q c9 ir5 (iv_k (x := 0) (k := 0) rfl) (by decide)
    refine lv_ldcw (v := -1000000) hx hb hown (hts _ w_1787) dX11_least_35 ?_
    exact u_iret C h hr hQ (⟨⟨by decide, by decide⟩, tf1, of1, k2⟩) (Nat.le_of_ble_eq_true rfl) (Nat.le_of_ble_eq_true rfl) dX11_least_38
  · have c11 : r5.toInt ≠ 0 := fun z_ => c8 (Int32.toInt_inj.mp z_)
    have i12 : iv r5 1 1 := iv_Nl c11 ir5 (by decide)
    have i13 := cnr5 c11
    refine lv_iload_n hx hb dX11_least_13 rfl (lv_at hl 2 rfl) ?_
    refine lv_i2l hx hb dX11_least_14 rfl (i_topL hu2 (fun w14 ew14 mw14 iw14 => ?_))
    refine lv_lconst (v := 0) hx hb dX11_least_15 (by decide) ?_
    refine lv_ldc2 (v := 4) hx hb hown (hts _ w_1730) dX11_least_16 ?_
    refine k_i (r_S C h hl (As := [.long w14, .long 0, .long 4]) (rest := []) (s_X11_isIn l D G b0 τ f1 tf1 w14 0 4) mk_X11_isIn w_1624 w_1625 w_1626 ⟨Nat.le_of_ble_eq_true rfl, Nat.le_of_ble_eq_true rfl⟩ rfl (Nat.le_of_ble_eq_true rfl) ⟨Nat.le_of_ble_eq_true rfl, Nat.le_of_ble_eq_true rfl⟩ rfl dX11_least_19) h (fun r15 f16 H locs p17 h => ?_)
    have n18 : (0 : Int64).toInt = 0 := rfl
    have n19 : (4 : Int64).toInt = 4 := rfl
    obtain ⟨ir15, tf16, ogf16, cnr15⟩ := p17
    have egf16 := Fr.nil2 ogf16
    subst egf16
    refine lv_if_eq (tgt := 35) hx hb dX11_least_22 (by decide) (fun c20 => ?_) (fun c20 => ?_)
    · have c21 : r15.toInt = 0 := congrArg Int32.toInt c20
      have i22 : iv r15 0 0 := iv_Q c21 ir15 (iv_k (x := 0) (k := 0) rfl) (by decide)
      refine lv_ldcw (v := -1000000) hx hb hown (hts _ w_1787) dX11_least_35 ?_
      exact u_iret C h hr hQ (⟨⟨by decide, by decide⟩, tf1, of1, k2⟩) (Nat.le_of_ble_eq_true rfl) (Nat.le_of_ble_eq_true rfl) dX11_least_38
    · have c23 : r15.toInt ≠ 0 := fun z_ => c20 (Int32.toInt_inj.mp z_)
      have i24 : iv r15 1 1 := iv_Nl c23 ir15 (by decide)
      obtain ⟨i25, i26⟩ := cnr15 c23
      have i27 : iv u2 0 4 := ⟨by omega, by omega⟩
      refine lv_iload_n hx hb dX11_least_25 rfl (lv_at hl 3 rfl) ?_
      refine lv_i2l hx hb dX11_least_26 rfl (i_topL hu3 (fun w28 ew28 mw28 iw28 => ?_))
      refine lv_lconst (v := 0) hx hb dX11_least_27 (by decide) ?_
      refine lv_lconst (v := 1) hx hb dX11_least_28 (by decide) ?_
      refine k_i (r_S C h hl (As := [.long w28, .long 0, .long 1]) (rest := []) (s_X11_isIn l D G b0 τ f1 tf1 w28 0 1) mk_X11_isIn w_1624 w_1625 w_1626 ⟨Nat.le_of_ble_eq_true rfl, Nat.le_of_ble_eq_true rfl⟩ rfl (Nat.le_of_ble_eq_true rfl) ⟨Nat.le_of_ble_eq_true rfl, Nat.le_of_ble_eq_true rfl⟩ rfl dX11_least_29) h (fun r29 f30 H locs p31 h => ?_)
      have n32 : (0 : Int64).toInt = 0 := rfl
      have n33 : (1 : Int64).toInt = 1 := rfl
      obtain ⟨ir29, tf30, ogf30, cnr29⟩ := p31
      have egf30 := Fr.nil2 ogf30
      subst egf30
      refine lv_if_ne (tgt := 39) hx hb dX11_least_32 (by decide) (fun c34 => ?_) (fun c34 => ?_)
      · have c35 : r29.toInt ≠ 0 := fun z_ => c34 (Int32.toInt_inj.mp z_)
        have i36 : iv r29 1 1 := iv_Nl c35 ir29 (by decide)
        obtain ⟨i37, i38⟩ := cnr29 c35
        exfalso; omega
      · have c39 : r29.toInt = 0 := congrArg Int32.toInt c34
        have i40 : iv r29 0 0 := iv_Q c39 ir29 (iv_k (x := 0) (k := 0) rfl) (by decide)
        refine lv_ldcw (v := -1000000) hx hb hown (hts _ w_1787) dX11_least_35 ?_
        exact u_iret C h hr hQ (⟨⟨by decide, by decide⟩, tf1, of1, k2⟩) (Nat.le_of_ble_eq_true rfl) (Nat.le_of_ble_eq_true rfl) dX11_least_38
abbrev rm_s_X11_least : Room := { frames := 5, cells := 0, slots := 0, locals := 122 }
set_option maxRecDepth 100000 in
set_option maxHeartbeats 4000000 in
theorem s_X11_least (l : Launch) (D : va_G) (G : Nat → Nat) (b0 : Nat) (τ : Nat → Nat) (f : hM) (t : TI G 9 τ f) (u0 : Nat) (hu0 : τ u0 = 60) (u1 : Int32) (hu1 : iv u1 (-2147483648) 2147483647) (u2 : Int32) (hu2 : iv u2 (-2147483648) 2147483647) (u3 : Int32) (hu3 : iv u3 (-2147483648) 2147483647) (hNG : NGs τ f u0) : mI l yX11_least cX11_least 9 (.int) rm_s_X11_least D G b0 f [.ref u0, .int u1, .int u2, .int u3] (fun r f1 => iv r (-2147483648) 2147483647 ∧ TI G 9 τ f1 ∧ Fr [60, 67, 69, 72, 73, 74, 75, 76, 60001, 60013, 60014, 60015, 60028, 60029] τ f f1 ∧ NGs τ f1 u0) := by
  rcases (by omega : u3.toInt = 0 ∨ u3.toInt = 1 ∨ 2 ≤ u3.toInt ∨ u3.toInt < 0) with q_ | q_ | q_ | q_
  · exact s_X11_leasta l D G b0 τ f t u0 hu0 u1 hu1 u2 hu2 u3 (by omega) hNG
  · exact s_X11_leastb l D G b0 τ f t u0 hu0 u1 hu1 u2 hu2 u3 (by omega) hNG
  · exact s_X11_leastc l D G b0 τ f t u0 hu0 u1 hu1 u2 hu2 u3 (by omega) hNG
  · exact s_X11_leastd l D G b0 τ f t u0 hu0 u1 hu1 u2 hu2 u3 (by omega) hNG
abbrev rm_s_X11_status : Room := { frames := 1, cells := 0, slots := 0, locals := 25 }
set_option maxRecDepth 100000 in
set_option maxHeartbeats 4000000 in
theorem s_X11_status (l : Launch) (D : va_G) (G : Nat → Nat) (b0 : Nat) (τ : Nat → Nat) (f : hM) (t : TI G 9 τ f) (u0 : Nat) (hu0 : τ u0 = 60) (u1 : Int32) (hu1 : iv u1 (-2147483648) 2147483647) : mI l yX11_status cX11_status 2 (.int) rm_s_X11_status D G b0 f [.ref u0, .int u1] (fun r f1 => iv r (-2147483648) 2147483647 ∧ TI G 9 τ f1 ∧ Fr [60, 60001] τ f f1) := by
  refine met2 (own := RX11) (by decide) rfl (Nat.le_of_ble_eq_true rfl) ?_
  intro p e s m args below meth c ls Q hQ C hr hini hl h
  have hl : lv_has ls 2 [(0, .ref u0), (1, .int u1)] := hl
  obtain ⟨hx, hb, hml, hown, hts, hE0, hlk⟩ := id C
  have o := Fr.rf [60, 60001] τ f
  refine lv_aload_n hx hb dX11_status_0 rfl (lv_at hl 0 rfl) ?_
  refine lv_iconst (v := 0) hx hb dX11_status_1 (by decide) ?_
  refine t_put C h t o hu0 (by decide) (by decide) (by decide) wf_60 fw_60 (k := 0) rfl flw_X11_75 (Or.inr ⟨_, _, _, rfl, rfl⟩) (v := .int 0) rfl rfl ⟨_, rfl, ⟨by decide, by decide⟩⟩ dX11_status_2 (fun f1 H locs h tf1 of1 hq ha_ hn_ hk_ => ?_)
  have k2 := ha_
  refine lv_iload_n hx hb dX11_status_5 rfl (lv_at hl 1 rfl) ?_
  refine lv_i2l hx hb dX11_status_6 rfl (i_topL hu1 (fun w3 ew3 mw3 iw3 => ?_))
  refine lv_lconst (v := 0) hx hb dX11_status_7 (by decide) ?_
  refine lv_ldc2 (v := 3) hx hb hown (hts _ w_1940) dX11_status_8 ?_
  refine k_i (r_S C h hl (As := [.long w3, .long 0, .long 3]) (rest := []) (s_X11_isIn l D G b0 τ f1 tf1 w3 0 3) mk_X11_isIn w_1624 w_1625 w_1626 ⟨Nat.le_of_ble_eq_true rfl, Nat.le_of_ble_eq_true rfl⟩ rfl (Nat.le_of_ble_eq_true rfl) ⟨Nat.le_of_ble_eq_true rfl, Nat.le_of_ble_eq_true rfl⟩ rfl dX11_status_11) h (fun r4 f5 H locs p6 h => ?_)
  have n7 : (0 : Int64).toInt = 0 := rfl
  have n8 : (3 : Int64).toInt = 3 := rfl
  obtain ⟨ir4, tf5, ogf5, cnr4⟩ := p6
  have egf5 := Fr.nil2 ogf5
  subst egf5
  refine lv_if_eq (tgt := 26) hx hb dX11_status_14 (by decide) (fun c9 => ?_) (fun c9 => ?_)
  · have c10 : r4.toInt = 0 := congrArg Int32.toInt c9
    have i11 : iv r4 0 0 := iv_Q c10 ir4 (iv_k (x := 0) (k := 0) rfl) (by decide)
    refine lv_iconst (v := -1) hx hb dX11_status_26 (by decide) ?_
    exact u_iret C h hr hQ (⟨⟨by decide, by decide⟩, tf1, of1⟩) (Nat.le_of_ble_eq_true rfl) (Nat.le_of_ble_eq_true rfl) dX11_status_27
  · have c12 : r4.toInt ≠ 0 := fun z_ => c9 (Int32.toInt_inj.mp z_)
    have i13 : iv r4 1 1 := iv_Nl c12 ir4 (by decide)
    obtain ⟨i14, i15⟩ := cnr4 c12
    have i16 : iv u1 0 3 := ⟨by omega, by omega⟩
    refine lv_aload_n hx hb dX11_status_17 rfl (lv_at hl 0 rfl) ?_
    refine t_getr (tq := 66) C h tf1 hu0 (by decide) wf_60 rfl fl_X11_26 dX11_status_18 (fun q17 tq17 => ?_)
    refine lv_iload_n hx hb dX11_status_21 rfl (lv_at hl 1 rfl) ?_
    refine t_iald C h tf1 tq17 (by decide) wf_66 (iv_in i16 (by decide)) dX11_status_22 (fun z18 iz18 => ?_)
    refine lv_goto (tgt := 27) hx hb dX11_status_23 (by decide) ?_
    exact u_iret C h hr hQ (⟨iz18, tf1, of1⟩) (Nat.le_of_ble_eq_true rfl) (Nat.le_of_ble_eq_true rfl) dX11_status_27
abbrev rm_s_X11_numberFor : Room := { frames := 7, cells := 0, slots := 0, locals := 179 }
set_option maxRecDepth 100000 in
set_option maxHeartbeats 4000000 in
theorem s_X11_numberFor (l : Launch) (D : va_G) (G : Nat → Nat) (b0 : Nat) (τ : Nat → Nat) (f : hM) (t : TI G 9 τ f) (u0 : Nat) (hu0 : τ u0 = 60) (u1 : Int32) (hu1 : iv u1 0 7) (u2 : Int32) (hu2 : iv u2 (-2147483648) 2147483647) : mI l yX11_numberFor cX11_numberFor 3 (.int) rm_s_X11_numberFor D G b0 f [.ref u0, .int u1, .int u2] (fun r f1 => iv r (-2147483648) 2147483647 ∧ TI G 9 τ f1 ∧ Fr [71, 81] τ f f1) := by
  refine met2 (own := RX11) (by decide) rfl (Nat.le_of_ble_eq_true rfl) ?_
  intro p e s m args below meth c ls Q hQ C hr hini hl h
  have hl : lv_has ls 3 [(0, .ref u0), (1, .int u1), (2, .int u2)] := hl
  obtain ⟨hx, hb, hml, hown, hts, hE0, hlk⟩ := id C
  have o := Fr.rf [71, 81] τ f
  refine lv_iload_n hx hb dX11_numberFor_0 rfl (lv_at hl 2 rfl) ?_
  refine lv_if_ne (tgt := 12) hx hb dX11_numberFor_1 (by decide) (fun c1 => ?_) (fun c1 => ?_)
  · have c2 : u2.toInt ≠ 0 := fun z_ => c1 (Int32.toInt_inj.mp z_)
    refine lv_iload_n hx hb dX11_numberFor_12 rfl (lv_at hl 2 rfl) ?_
    refine lv_iconst (v := 1) hx hb dX11_numberFor_13 (by decide) ?_
    refine lv_icmp_ne (tgt := 25) hx hb dX11_numberFor_14 (by decide) (fun c5 => ?_) (fun c5 => ?_)
    · have c6 : u2.toInt ≠ 1 := fun z_ => c5 (Int32.toInt_inj.mp z_)
      refine lv_aload_n hx hb dX11_numberFor_25 rfl (lv_at hl 0 rfl) ?_
      refine lv_iload_n hx hb dX11_numberFor_26 rfl (lv_at hl 1 rfl) ?_
      obtain ⟨_, r9⟩ := t_rec t hu0 (by decide) wf_60
      refine k_i (r_V C h hl (As := [.int u1]) (rest := []) (s_X11_groupOf l D G b0 τ f t u0 hu0 u1 hu1) r9 (Cn := RX11) (T := TX11) (N := 32) rfl rfl mk_X11_groupOf w_1899 w_1901 w_74 w_1902 ⟨Nat.le_of_ble_eq_true rfl, Nat.le_of_ble_eq_true rfl⟩ rfl (Nat.le_of_ble_eq_true rfl) ⟨Nat.le_of_ble_eq_true rfl, Nat.le_of_ble_eq_true rfl⟩ rfl dX11_numberFor_27) h (fun r10 f11 H locs p12 h => ?_)
      obtain ⟨ir10, tf11, ogf11⟩ := p12
      have of11 : Fr [71, 81] τ f f11 := Fr.tr o ogf11 (by decide) (by decide)
      exact u_iret C h hr hQ (⟨(iv_w ir10 (by decide)), tf11, of11⟩) (Nat.le_of_ble_eq_true rfl) (Nat.le_of_ble_eq_true rfl) dX11_numberFor_30
    · have c7 : u2.toInt = 1 := congrArg Int32.toInt c5
      have i8 : iv u2 1 1 := iv_Q c7 hu2 (iv_k (x := 1) (k := 1) rfl) (by decide)
      refine lv_aload_n hx hb dX11_numberFor_17 rfl (lv_at hl 0 rfl) ?_
      refine lv_iload_n hx hb dX11_numberFor_18 rfl (lv_at hl 1 rfl) ?_
      obtain ⟨_, r13⟩ := t_rec t hu0 (by decide) wf_60
      refine k_i (r_V C h hl (As := [.int u1]) (rest := []) (s_X11_worthOf l D G b0 τ f t u0 hu0 u1 hu1) r13 (Cn := RX11) (T := TX11) (N := 32) rfl rfl mk_X11_worthOf w_1649 w_1651 w_53 w_1652 ⟨Nat.le_of_ble_eq_true rfl, Nat.le_of_ble_eq_true rfl⟩ rfl (Nat.le_of_ble_eq_true rfl) ⟨Nat.le_of_ble_eq_true rfl, Nat.le_of_ble_eq_true rfl⟩ rfl dX11_numberFor_19) h (fun r14 f15 H locs p16 h => ?_)
      obtain ⟨ir14, tf15, ogf15⟩ := p16
      have egf15 := Fr.nil2 ogf15
      subst egf15
      refine lv_goto (tgt := 30) hx hb dX11_numberFor_22 (by decide) ?_
      exact u_iret C h hr hQ (⟨ir14, t, o⟩) (Nat.le_of_ble_eq_true rfl) (Nat.le_of_ble_eq_true rfl) dX11_numberFor_30
  · have c3 : u2.toInt = 0 := congrArg Int32.toInt c1
    have i4 : iv u2 0 0 := iv_Q c3 hu2 (iv_k (x := 0) (k := 0) rfl) (by decide)
    refine lv_aload_n hx hb dX11_numberFor_4 rfl (lv_at hl 0 rfl) ?_
    refine lv_iload_n hx hb dX11_numberFor_5 rfl (lv_at hl 1 rfl) ?_
    obtain ⟨_, r17⟩ := t_rec t hu0 (by decide) wf_60
    refine k_i (r_V C h hl (As := [.int u1]) (rest := []) (s_X11_stepsOf l D G b0 τ f t u0 hu0 u1 hu1) r17 (Cn := RX11) (T := TX11) (N := 32) rfl rfl mk_X11_stepsOf w_1658 w_1660 w_54 w_1661 ⟨Nat.le_of_ble_eq_true rfl, Nat.le_of_ble_eq_true rfl⟩ rfl (Nat.le_of_ble_eq_true rfl) ⟨Nat.le_of_ble_eq_true rfl, Nat.le_of_ble_eq_true rfl⟩ rfl dX11_numberFor_6) h (fun r18 f19 H locs p20 h => ?_)
    obtain ⟨ir18, tf19, ogf19⟩ := p20
    have egf19 := Fr.nil2 ogf19
    subst egf19
    refine lv_goto (tgt := 30) hx hb dX11_numberFor_9 (by decide) ?_
    exact u_iret C h hr hQ (⟨ir18, t, o⟩) (Nat.le_of_ble_eq_true rfl) (Nat.le_of_ble_eq_true rfl) dX11_numberFor_30
abbrev rm_s_X11_mostBy : Room := { frames := 8, cells := 0, slots := 0, locals := 201 }
set_option maxRecDepth 100000 in
set_option maxHeartbeats 4000000 in
theorem s_X11_mostBy (l : Launch) (D : va_G) (G : Nat → Nat) (b0 : Nat) (τ : Nat → Nat) (f : hM) (t : TI G 9 τ f) (u0 : Nat) (hu0 : τ u0 = 60) (u1 : Int32) (hu1 : iv u1 (-2147483648) 2147483647) : mI l yX11_mostBy cX11_mostBy 6 (.int) rm_s_X11_mostBy D G b0 f [.ref u0, .int u1] (fun r f1 => iv r 0 7 ∧ TI G 9 τ f1 ∧ Fr [71, 81] τ f f1) := by
  refine met2 (own := RX11) (by decide) rfl (Nat.le_of_ble_eq_true rfl) ?_
  intro p e s m args below meth c ls Q hQ C hr hini hl h
  have hl : lv_has ls 6 [(0, .ref u0), (1, .int u1)] := hl
  obtain ⟨hx, hb, hml, hown, hts, hE0, hlk⟩ := id C
  have o := Fr.rf [71, 81] τ f
  have L12 : ∀ (n12 : Nat) (ls : Array Slot) (f_12 : hM) (H : Heap) (locs : List Loc) (v12_2 : Int32) (v12_3 : Int32) (v12_4 : Int32), 8 - v12_4.toInt < (n12 : Int) → lv_has ls 6 [(0, .ref u0), (1, .int u1), (2, .int v12_2), (3, .int v12_3), (4, .int v12_4)] → hw D b0 s.heap f_12 H locs → TI G 9 τ f_12 → Fr [71, 81] τ f f_12 → iv v12_2 0 7 → iv v12_3 (-2147483648) 2147483647 → iv v12_4 1 8 → W p l e rm_s_X11_mostBy s m args below meth c H locs 0 0 Q (F0 m 12 ls []) := by
    intro n12
    induction n12 with
    | zero => intro ls f_12 H locs v12_2 v12_3 v12_4 hm12 hl h t_12 o_12 iv12_2 iv12_3 iv12_4; exact absurd hm12 (by omega)
    | succ n12 ih12 =>
      intro ls f_12 H locs v12_2 v12_3 v12_4 hm12 hl h t_12 o_12 iv12_2 iv12_3 iv12_4
      refine lv_iload hx hb dX11_mostBy_12 (lv_at hl 4 rfl) ?_
      refine lv_aload_n hx hb dX11_mostBy_14 rfl (lv_at hl 0 rfl) ?_
      refine t_getr (tq := 63) C h t_12 hu0 (by decide) wf_60 rfl fl_X11_17 dX11_mostBy_15 (fun q1 tq1 => ?_)
      refine lv_bipush (v := 80) hx hb dX11_mostBy_18 (by decide) ?_
      refine t_bk80 C h t_12 tq1 (by decide) wf_63 dX11_mostBy_20 (fun z2 iz2 => ?_)
      refine lv_icmp_ge (tgt := 54) hx hb dX11_mostBy_21 (by decide) (fun c3 => ?_) (fun c3 => ?_)
      · have c4 : z2.toInt ≤ v12_4.toInt := Int32.le_iff_toInt_le.mp c3
        refine lv_iload_n hx hb dX11_mostBy_54 rfl (lv_at hl 2 rfl) ?_
        exact u_iret C h hr hQ (⟨iv12_2, t_12, o_12⟩) (Nat.le_of_ble_eq_true rfl) (Nat.le_of_ble_eq_true rfl) dX11_mostBy_55
      · have c5 : v12_4.toInt < z2.toInt := Int32.lt_iff_toInt_lt.mp (iv_nle c3)
        have i6 : iv v12_4 1 7 := iv_Ll c5 iv12_4 iz2 (by decide)
        have i7 : iv z2 2 8 := iv_Lr c5 iv12_4 iz2 (by decide)
        refine lv_aload_n hx hb dX11_mostBy_24 rfl (lv_at hl 0 rfl) ?_
        refine lv_iload hx hb dX11_mostBy_25 (lv_at hl 4 rfl) ?_
        refine lv_iload_n hx hb dX11_mostBy_27 rfl (lv_at hl 1 rfl) ?_
        obtain ⟨_, r8⟩ := t_rec t_12 hu0 (by decide) wf_60
        refine k_i (r_V C h hl (As := [.int v12_4, .int u1]) (rest := []) (s_X11_numberFor l D G b0 τ f_12 t_12 u0 hu0 v12_4 (iv_w i6 (by decide)) u1 hu1) r8 (Cn := RX11) (T := TX11) (N := 32) rfl rfl mk_X11_numberFor w_2050 w_2052 w_94 w_2053 ⟨Nat.le_of_ble_eq_true rfl, Nat.le_of_ble_eq_true rfl⟩ rfl (Nat.le_of_ble_eq_true rfl) ⟨Nat.le_of_ble_eq_true rfl, Nat.le_of_ble_eq_true rfl⟩ rfl dX11_mostBy_28) h (fun r9 f10 H locs p11 h => ?_)
        obtain ⟨ir9, tf10, ogf10⟩ := p11
        have of10 : Fr [71, 81] τ f f10 := Fr.tr o_12 ogf10 (by decide) (by decide)
        refine lv_istore (lv' := [(5, .int r9), (0, .ref u0), (1, .int u1), (2, .int v12_2), (3, .int v12_3), (4, .int v12_4)]) hx hb dX11_mostBy_31 hl (by decide) rfl (fun ls hl => ?_)
        refine lv_iload hx hb dX11_mostBy_33 (lv_at hl 0 rfl) ?_
        refine lv_iload_n hx hb dX11_mostBy_35 rfl (lv_at hl 4 rfl) ?_
        refine lv_icmp_gt (tgt := 42) hx hb dX11_mostBy_36 (by decide) (fun c12 => ?_) (fun c12 => ?_)
        · have c13 : v12_3.toInt < r9.toInt := Int32.lt_iff_toInt_lt.mp c12
          have i14 : iv v12_3 (-2147483648) 2147483646 := iv_Ll c13 iv12_3 ir9 (by decide)
          have i15 : iv r9 (-2147483647) 2147483647 := iv_Lr c13 iv12_3 ir9 (by decide)
          refine lv_iload hx hb dX11_mostBy_42 (lv_at hl 5 rfl) ?_
          refine lv_istore_n (lv' := [(2, .int v12_4), (5, .int r9), (0, .ref u0), (1, .int u1), (3, .int v12_3), (4, .int v12_4)]) hx hb dX11_mostBy_44 rfl hl (by decide) rfl (fun ls hl => ?_)
          refine lv_iload hx hb dX11_mostBy_45 (lv_at hl 1 rfl) ?_
          refine lv_istore_n (lv' := [(3, .int r9), (2, .int v12_4), (5, .int r9), (0, .ref u0), (1, .int u1), (4, .int v12_4)]) hx hb dX11_mostBy_47 rfl hl (by decide) rfl (fun ls hl => ?_)
          refine i_inc hx hb dX11_mostBy_48 hl (k := 5) rfl i6 rfl (lo := 2) (hi := 8) (by decide) (by decide) (lv' := fun v => [(4, .int v), (3, .int r9), (2, .int v12_4), (5, .int r9), (0, .ref u0), (1, .int u1)]) (fun _ => rfl) (fun z17 ls ez17 mz17 iz17 hl => ?_)
          refine lv_goto (tgt := 12) hx hb dX11_mostBy_51 (by decide) ?_
          exact ih12 ls f10 H locs v12_4 r9 z17 (show 8 - z17.toInt < _ by omega) (lv_cons hl 4 rfl (lv_cons hl 5 rfl (lv_cons hl 2 rfl (lv_cons hl 1 rfl (lv_cons hl 0 rfl (lv_nil hl)))))) h tf10 of10 (iv_w i6 (by decide)) (iv_w i15 (by decide)) (iv_w iz17 (by decide))
        · have c16 : r9.toInt ≤ v12_3.toInt := Int32.le_iff_toInt_le.mp (iv_nlt c12)
          refine lv_goto (tgt := 48) hx hb dX11_mostBy_39 (by decide) ?_
          refine i_inc hx hb dX11_mostBy_48 hl (k := 5) rfl i6 rfl (lo := 2) (hi := 8) (by decide) (by decide) (lv' := fun v => [(4, .int v), (5, .int r9), (0, .ref u0), (1, .int u1), (2, .int v12_2), (3, .int v12_3)]) (fun _ => rfl) (fun z18 ls ez18 mz18 iz18 hl => ?_)
          refine lv_goto (tgt := 12) hx hb dX11_mostBy_51 (by decide) ?_
          exact ih12 ls f10 H locs v12_2 v12_3 z18 (show 8 - z18.toInt < _ by omega) (lv_cons hl 2 rfl (lv_cons hl 3 rfl (lv_cons hl 4 rfl (lv_cons hl 5 rfl (lv_cons hl 0 rfl (lv_nil hl)))))) h tf10 of10 iv12_2 iv12_3 (iv_w iz18 (by decide))
  refine lv_iconst (v := 0) hx hb dX11_mostBy_0 (by decide) ?_
  refine lv_istore_n (lv' := [(2, .int 0), (0, .ref u0), (1, .int u1)]) hx hb dX11_mostBy_1 rfl hl (by decide) rfl (fun ls hl => ?_)
  refine lv_aload_n hx hb dX11_mostBy_2 rfl (lv_at hl 1 rfl) ?_
  refine lv_iconst (v := 0) hx hb dX11_mostBy_3 (by decide) ?_
  refine lv_iload_n hx hb dX11_mostBy_4 rfl (lv_at hl 2 rfl) ?_
  obtain ⟨_, r19⟩ := t_rec t hu0 (by decide) wf_60
  refine k_i (r_V C h hl (As := [.int 0, .int u1]) (rest := []) (s_X11_numberFor l D G b0 τ f t u0 hu0 0 (iv_w (iv_k (x := 0) (k := 0) rfl) (by decide)) u1 hu1) r19 (Cn := RX11) (T := TX11) (N := 32) rfl rfl mk_X11_numberFor w_2050 w_2052 w_94 w_2053 ⟨Nat.le_of_ble_eq_true rfl, Nat.le_of_ble_eq_true rfl⟩ rfl (Nat.le_of_ble_eq_true rfl) ⟨Nat.le_of_ble_eq_true rfl, Nat.le_of_ble_eq_true rfl⟩ rfl dX11_mostBy_5) h (fun r20 f21 H locs p22 h => ?_)
  obtain ⟨ir20, tf21, ogf21⟩ := p22
  have of21 : Fr [71, 81] τ f f21 := Fr.tr o ogf21 (by decide) (by decide)
  refine lv_istore_n (lv' := [(3, .int r20), (2, .int 0), (0, .ref u0), (1, .int u1)]) hx hb dX11_mostBy_8 rfl hl (by decide) rfl (fun ls hl => ?_)
  refine lv_iconst (v := 1) hx hb dX11_mostBy_9 (by decide) ?_
  refine lv_istore (lv' := [(4, .int 1), (3, .int r20), (2, .int 0), (0, .ref u0), (1, .int u1)]) hx hb dX11_mostBy_10 hl (by decide) rfl (fun ls hl => ?_)
  exact L12 8 ls f21 H locs 0 r20 1 (by decide) (lv_cons hl 3 rfl (lv_cons hl 4 rfl (lv_cons hl 2 rfl (lv_cons hl 1 rfl (lv_cons hl 0 rfl (lv_nil hl)))))) h tf21 of21 ⟨by decide, by decide⟩ ir20 ⟨by decide, by decide⟩
abbrev rm_s_X11_areOne : Room := { frames := 1, cells := 0, slots := 0, locals := 22 }
set_option maxRecDepth 100000 in
set_option maxHeartbeats 4000000 in
theorem s_X11_areOne (l : Launch) (D : va_G) (G : Nat → Nat) (b0 : Nat) (τ : Nat → Nat) (f : hM) (t : TI G 9 τ f) (u0 : Nat) (hu0 : τ u0 = 60) (u1 : Int32) (hu1 : iv u1 0 7) (u2 : Int32) (hu2 : iv u2 0 7) : mI l yX11_areOne cX11_areOne 4 (.boolean) rm_s_X11_areOne D G b0 f [.ref u0, .int u1, .int u2] (fun r f1 => iv r 0 1 ∧ TI G 9 τ f1 ∧ Fr [] τ f f1) := by
  refine met2 (own := RX11) (by decide) rfl (Nat.le_of_ble_eq_true rfl) ?_
  intro p e s m args below meth c ls Q hQ C hr hini hl h
  have hl : lv_has ls 4 [(0, .ref u0), (1, .int u1), (2, .int u2)] := hl
  obtain ⟨hx, hb, hml, hown, hts, hE0, hlk⟩ := id C
  have o := Fr.rf [] τ f
  have L2 : ∀ (n2 : Nat) (ls : Array Slot) (f_2 : hM) (H : Heap) (locs : List Loc) (v2_3 : Int32), 10 - v2_3.toInt < (n2 : Int) → lv_has ls 4 [(0, .ref u0), (1, .int u1), (2, .int u2), (3, .int v2_3)] → hw D b0 s.heap f_2 H locs → TI G 9 τ f_2 → Fr [] τ f f_2 → iv v2_3 0 10 → W p l e rm_s_X11_areOne s m args below meth c H locs 0 0 Q (F0 m 2 ls []) := by
    intro n2
    induction n2 with
    | zero => intro ls f_2 H locs v2_3 hm2 hl h t_2 o_2 iv2_3; exact absurd hm2 (by omega)
    | succ n2 ih2 =>
      intro ls f_2 H locs v2_3 hm2 hl h t_2 o_2 iv2_3
      refine lv_iload_n hx hb dX11_areOne_2 rfl (lv_at hl 3 rfl) ?_
      refine lv_bipush (v := 10) hx hb dX11_areOne_3 (by decide) ?_
      refine lv_icmp_ge (tgt := 31) hx hb dX11_areOne_5 (by decide) (fun c1 => ?_) (fun c1 => ?_)
      · have c2 : 10 ≤ v2_3.toInt := Int32.le_iff_toInt_le.mp c1
        have i3 : iv v2_3 10 10 := iv_Er c2 (iv_k (x := 10) (k := 10) rfl) iv2_3 (by decide)
        refine lv_iconst (v := 1) hx hb dX11_areOne_31 (by decide) ?_
        exact u_zret C h hr hQ ⟨by decide, by decide⟩ (⟨⟨by decide, by decide⟩, t_2, o_2⟩) (Nat.le_of_ble_eq_true rfl) (Nat.le_of_ble_eq_true rfl) dX11_areOne_32
      · have c4 : v2_3.toInt < 10 := Int32.lt_iff_toInt_lt.mp (iv_nle c1)
        have i5 : iv v2_3 0 9 := iv_Ll c4 iv2_3 (iv_k (x := 10) (k := 10) rfl) (by decide)
        refine lv_aload_n hx hb dX11_areOne_8 rfl (lv_at hl 0 rfl) ?_
        refine lv_iload_n hx hb dX11_areOne_9 rfl (lv_at hl 1 rfl) ?_
        refine lv_iload_n hx hb dX11_areOne_10 rfl (lv_at hl 3 rfl) ?_
        obtain ⟨_, r6⟩ := t_rec t_2 hu0 (by decide) wf_60
        refine k_i (r_V C h hl (As := [.int u1, .int v2_3]) (rest := []) (s_X11_weightOf l D G b0 τ f_2 t_2 u0 hu0 u1 hu1 v2_3 i5) r6 (Cn := RX11) (T := TX11) (N := 32) rfl rfl mk_X11_weightOf w_1631 w_1633 w_52 w_1634 ⟨Nat.le_of_ble_eq_true rfl, Nat.le_of_ble_eq_true rfl⟩ rfl (Nat.le_of_ble_eq_true rfl) ⟨Nat.le_of_ble_eq_true rfl, Nat.le_of_ble_eq_true rfl⟩ rfl dX11_areOne_11) h (fun r7 f8 H locs p9 h => ?_)
        obtain ⟨ir7, tf8, ogf8⟩ := p9
        have egf8 := Fr.nil2 ogf8
        subst egf8
        refine lv_aload_n hx hb dX11_areOne_14 rfl (lv_at hl 0 rfl) ?_
        refine lv_iload_n hx hb dX11_areOne_15 rfl (lv_at hl 2 rfl) ?_
        refine lv_iload_n hx hb dX11_areOne_16 rfl (lv_at hl 3 rfl) ?_
        obtain ⟨_, r10⟩ := t_rec t_2 hu0 (by decide) wf_60
        refine k_i (r_V C h hl (As := [.int u2, .int v2_3]) (rest := [.int r7]) (s_X11_weightOf l D G b0 τ f_2 t_2 u0 hu0 u2 hu2 v2_3 i5) r10 (Cn := RX11) (T := TX11) (N := 32) rfl rfl mk_X11_weightOf w_1631 w_1633 w_52 w_1634 ⟨Nat.le_of_ble_eq_true rfl, Nat.le_of_ble_eq_true rfl⟩ rfl (Nat.le_of_ble_eq_true rfl) ⟨Nat.le_of_ble_eq_true rfl, Nat.le_of_ble_eq_true rfl⟩ rfl dX11_areOne_17) h (fun r11 f12 H locs p13 h => ?_)
        obtain ⟨ir11, tf12, ogf12⟩ := p13
        have egf12 := Fr.nil2 ogf12
        subst egf12
        refine lv_icmp_eq (tgt := 25) hx hb dX11_areOne_20 (by decide) (fun c14 => ?_) (fun c14 => ?_)
        · have c15 : r7.toInt = r11.toInt := congrArg Int32.toInt c14
          refine i_inc hx hb dX11_areOne_25 hl (k := 3) rfl i5 rfl (lo := 1) (hi := 10) (by decide) (by decide) (lv' := fun v => [(3, .int v), (0, .ref u0), (1, .int u1), (2, .int u2)]) (fun _ => rfl) (fun z17 ls ez17 mz17 iz17 hl => ?_)
          refine lv_goto (tgt := 2) hx hb dX11_areOne_28 (by decide) ?_
          exact ih2 ls f_2 H locs z17 (show 10 - z17.toInt < _ by omega) (lv_cons hl 1 rfl (lv_cons hl 2 rfl (lv_cons hl 3 rfl (lv_cons hl 0 rfl (lv_nil hl))))) h t_2 o_2 (iv_w iz17 (by decide))
        · have c16 : r7.toInt ≠ r11.toInt := fun z_ => c14 (Int32.toInt_inj.mp z_)
          refine lv_iconst (v := 0) hx hb dX11_areOne_23 (by decide) ?_
          exact u_zret C h hr hQ ⟨by decide, by decide⟩ (⟨⟨by decide, by decide⟩, t_2, o_2⟩) (Nat.le_of_ble_eq_true rfl) (Nat.le_of_ble_eq_true rfl) dX11_areOne_24
  refine lv_iconst (v := 0) hx hb dX11_areOne_0 (by decide) ?_
  refine lv_istore_n (lv' := [(3, .int 0), (0, .ref u0), (1, .int u1), (2, .int u2)]) hx hb dX11_areOne_1 rfl hl (by decide) rfl (fun ls hl => ?_)
  exact L2 11 ls f s.heap [] 0 (by decide) (lv_cons hl 1 rfl (lv_cons hl 2 rfl (lv_cons hl 3 rfl (lv_cons hl 0 rfl (lv_nil hl))))) h t o ⟨by decide, by decide⟩
abbrev rm_s_X11_unlike : Room := { frames := 2, cells := 0, slots := 0, locals := 45 }
set_option maxRecDepth 100000 in
set_option maxHeartbeats 4000000 in
theorem s_X11_unlike (l : Launch) (D : va_G) (G : Nat → Nat) (b0 : Nat) (τ : Nat → Nat) (f : hM) (t : TI G 9 τ f) (u0 : Nat) (hu0 : τ u0 = 60) : mI l yX11_unlike cX11_unlike 5 (.int) rm_s_X11_unlike D G b0 f [.ref u0] (fun r f1 => iv r (-2147483648) 2147483647 ∧ TI G 9 τ f1 ∧ Fr [] τ f f1) := by
  refine met2 (own := RX11) (by decide) rfl (Nat.le_of_ble_eq_true rfl) ?_
  intro p e s m args below meth c ls Q hQ C hr hini hl h
  have hl : lv_has ls 5 [(0, .ref u0)] := hl
  obtain ⟨hx, hb, hml, hown, hts, hE0, hlk⟩ := id C
  have o := Fr.rf [] τ f
  have L4 : ∀ (n4 : Nat) (ls : Array Slot) (f_4 : hM) (H : Heap) (locs : List Loc) (v4_1 : Int32) (v4_2 : Int32), 8 - v4_2.toInt < (n4 : Int) → lv_has ls 5 [(0, .ref u0), (1, .int v4_1), (2, .int v4_2)] → hw D b0 s.heap f_4 H locs → TI G 9 τ f_4 → Fr [] τ f f_4 → iv v4_1 (-2147483648) 2147483647 → iv v4_2 0 8 → W p l e rm_s_X11_unlike s m args below meth c H locs 0 0 Q (F0 m 4 ls []) := by
    intro n4
    induction n4 with
    | zero => intro ls f_4 H locs v4_1 v4_2 hm4 hl h t_4 o_4 iv4_1 iv4_2; exact absurd hm4 (by omega)
    | succ n4 ih4 =>
      intro ls f_4 H locs v4_1 v4_2 hm4 hl h t_4 o_4 iv4_1 iv4_2
      have L20 : ∀ (n20 : Nat) (ls : Array Slot) (f_20 : hM) (H : Heap) (locs : List Loc) (v20_3 : Int32) (v20_4 : Int32), 7 - v20_4.toInt < (n20 : Int) → lv_has ls 5 [(0, .ref u0), (1, .int v4_1), (2, .int v4_2), (3, .int v20_3), (4, .int v20_4)] → hw D b0 s.heap f_20 H locs → TI G 9 τ f_20 → Fr [] τ f f_20 → iv v4_2 0 7 → iv v20_3 0 1 → iv v20_4 0 7 → W p l e rm_s_X11_unlike s m args below meth c H locs 0 0 Q (F0 m 20 ls []) := by
        intro n20
        induction n20 with
        | zero => intro ls f_20 H locs v20_3 v20_4 hm20 hl h t_20 o_20 jv20_2 iv20_3 iv20_4; exact absurd hm20 (by omega)
        | succ n20 ih20 =>
          intro ls f_20 H locs v20_3 v20_4 hm20 hl h t_20 o_20 jv20_2 iv20_3 iv20_4
          refine lv_iload hx hb dX11_unlike_20 (lv_at hl 4 rfl) ?_
          refine lv_iload_n hx hb dX11_unlike_22 rfl (lv_at hl 2 rfl) ?_
          refine lv_icmp_ge (tgt := 50) hx hb dX11_unlike_23 (by decide) (fun c1 => ?_) (fun c1 => ?_)
          · have c2 : v4_2.toInt ≤ v20_4.toInt := Int32.le_iff_toInt_le.mp c1
            refine lv_iload_n hx hb dX11_unlike_50 rfl (lv_at hl 1 rfl) ?_
            refine lv_iload_n hx hb dX11_unlike_51 rfl (lv_at hl 3 rfl) ?_
            refine lv_if_eq (tgt := 59) hx hb dX11_unlike_52 (by decide) (fun c6 => ?_) (fun c6 => ?_)
            · have c7 : v20_3.toInt = 0 := congrArg Int32.toInt c6
              have i8 : iv v20_3 0 0 := iv_Q c7 iv20_3 (iv_k (x := 0) (k := 0) rfl) (by decide)
              refine lv_iconst (v := 0) hx hb dX11_unlike_59 (by decide) ?_
              refine i_addk hx hb dX11_unlike_60 iv4_1 (k := 0) rfl (lo := (-2147483648)) (hi := 2147483647) (by decide) (fun z11 ez11 mz11 iz11 => ?_)
              refine lv_istore_n (lv' := [(1, .int z11), (0, .ref u0), (2, .int v4_2), (3, .int v20_3), (4, .int v20_4)]) hx hb dX11_unlike_61 rfl hl (by decide) rfl (fun ls hl => ?_)
              refine i_inc hx hb dX11_unlike_62 hl (k := 2) rfl jv20_2 rfl (lo := 1) (hi := 8) (by decide) (by decide) (lv' := fun v => [(2, .int v), (1, .int z11), (0, .ref u0), (3, .int v20_3), (4, .int v20_4)]) (fun _ => rfl) (fun z12 ls ez12 mz12 iz12 hl => ?_)
              refine lv_goto (tgt := 4) hx hb dX11_unlike_65 (by decide) ?_
              exact ih4 ls f_20 H locs z11 z12 (show 8 - z12.toInt < _ by omega) (lv_cons hl 2 rfl (lv_cons hl 1 rfl (lv_cons hl 0 rfl (lv_nil hl)))) h t_20 o_20 iz11 (iv_w iz12 (by decide))
            · have c9 : v20_3.toInt ≠ 0 := fun z_ => c6 (Int32.toInt_inj.mp z_)
              have i10 : iv v20_3 1 1 := iv_Nl c9 iv20_3 (by decide)
              refine lv_iconst (v := 1) hx hb dX11_unlike_55 (by decide) ?_
              refine lv_goto (tgt := 60) hx hb dX11_unlike_56 (by decide) ?_
              refine lv_iadd hx hb dX11_unlike_60 (i_top (iv_any _) (fun z13 ez13 iz13 => ?_))
              refine lv_istore_n (lv' := [(1, .int z13), (0, .ref u0), (2, .int v4_2), (3, .int v20_3), (4, .int v20_4)]) hx hb dX11_unlike_61 rfl hl (by decide) rfl (fun ls hl => ?_)
              refine i_inc hx hb dX11_unlike_62 hl (k := 2) rfl jv20_2 rfl (lo := 1) (hi := 8) (by decide) (by decide) (lv' := fun v => [(2, .int v), (1, .int z13), (0, .ref u0), (3, .int v20_3), (4, .int v20_4)]) (fun _ => rfl) (fun z14 ls ez14 mz14 iz14 hl => ?_)
              refine lv_goto (tgt := 4) hx hb dX11_unlike_65 (by decide) ?_
              exact ih4 ls f_20 H locs z13 z14 (show 8 - z14.toInt < _ by omega) (lv_cons hl 2 rfl (lv_cons hl 1 rfl (lv_cons hl 0 rfl (lv_nil hl)))) h t_20 o_20 iz13 (iv_w iz14 (by decide))
          · have c3 : v20_4.toInt < v4_2.toInt := Int32.lt_iff_toInt_lt.mp (iv_nle c1)
            have i4 : iv v20_4 0 6 := iv_Ll c3 iv20_4 jv20_2 (by decide)
            have i5 : iv v4_2 1 7 := iv_Lr c3 iv20_4 jv20_2 (by decide)
            refine lv_iload_n hx hb dX11_unlike_26 rfl (lv_at hl 3 rfl) ?_
            refine lv_aload_n hx hb dX11_unlike_27 rfl (lv_at hl 0 rfl) ?_
            refine lv_iload hx hb dX11_unlike_28 (lv_at hl 4 rfl) ?_
            refine lv_iload_n hx hb dX11_unlike_30 rfl (lv_at hl 2 rfl) ?_
            obtain ⟨_, r15⟩ := t_rec t_20 hu0 (by decide) wf_60
            refine k_i (r_V C h hl (As := [.int v20_4, .int v4_2]) (rest := [.int v20_3]) (s_X11_areOne l D G b0 τ f_20 t_20 u0 hu0 v20_4 (iv_w i4 (by decide)) v4_2 (iv_w i5 (by decide))) r15 (Cn := RX11) (T := TX11) (N := 32) rfl rfl mk_X11_areOne w_2042 w_2044 w_92 w_2045 ⟨Nat.le_of_ble_eq_true rfl, Nat.le_of_ble_eq_true rfl⟩ rfl (Nat.le_of_ble_eq_true rfl) ⟨Nat.le_of_ble_eq_true rfl, Nat.le_of_ble_eq_true rfl⟩ rfl dX11_unlike_31) h (fun r16 f17 H locs p18 h => ?_)
            obtain ⟨ir16, tf17, ogf17⟩ := p18
            have egf17 := Fr.nil2 ogf17
            subst egf17
            refine lv_if_ne (tgt := 41) hx hb dX11_unlike_34 (by decide) (fun c19 => ?_) (fun c19 => ?_)
            · have c20 : r16.toInt ≠ 0 := fun z_ => c19 (Int32.toInt_inj.mp z_)
              have i21 : iv r16 1 1 := iv_Nl c20 ir16 (by decide)
              refine lv_iconst (v := 0) hx hb dX11_unlike_41 (by decide) ?_
              refine lv_iand hx hb dX11_unlike_42 (i_top (iv_and (k := 0) rfl (by decide)) (fun z24 ez24 iz24 => ?_))
              refine lv_istore_n (lv' := [(3, .int z24), (0, .ref u0), (1, .int v4_1), (2, .int v4_2), (4, .int v20_4)]) hx hb dX11_unlike_43 rfl hl (by decide) rfl (fun ls hl => ?_)
              refine i_inc hx hb dX11_unlike_44 hl (k := 4) rfl i4 rfl (lo := 1) (hi := 7) (by decide) (by decide) (lv' := fun v => [(4, .int v), (3, .int z24), (0, .ref u0), (1, .int v4_1), (2, .int v4_2)]) (fun _ => rfl) (fun z25 ls ez25 mz25 iz25 hl => ?_)
              refine lv_goto (tgt := 20) hx hb dX11_unlike_47 (by decide) ?_
              exact ih20 ls f_20 H locs z24 z25 (show 7 - z25.toInt < _ by omega) (lv_cons hl 2 rfl (lv_cons hl 3 rfl (lv_cons hl 4 rfl (lv_cons hl 1 rfl (lv_cons hl 0 rfl (lv_nil hl)))))) h t_20 o_20 (iv_w i5 (by decide)) (iv_w iz24 (by decide)) (iv_w iz25 (by decide))
            · have c22 : r16.toInt = 0 := congrArg Int32.toInt c19
              have i23 : iv r16 0 0 := iv_Q c22 ir16 (iv_k (x := 0) (k := 0) rfl) (by decide)
              refine lv_iconst (v := 1) hx hb dX11_unlike_37 (by decide) ?_
              refine lv_goto (tgt := 42) hx hb dX11_unlike_38 (by decide) ?_
              refine lv_iand hx hb dX11_unlike_42 (i_top (iv_and (k := 1) rfl (by decide)) (fun z26 ez26 iz26 => ?_))
              refine lv_istore_n (lv' := [(3, .int z26), (0, .ref u0), (1, .int v4_1), (2, .int v4_2), (4, .int v20_4)]) hx hb dX11_unlike_43 rfl hl (by decide) rfl (fun ls hl => ?_)
              refine i_inc hx hb dX11_unlike_44 hl (k := 4) rfl i4 rfl (lo := 1) (hi := 7) (by decide) (by decide) (lv' := fun v => [(4, .int v), (3, .int z26), (0, .ref u0), (1, .int v4_1), (2, .int v4_2)]) (fun _ => rfl) (fun z27 ls ez27 mz27 iz27 hl => ?_)
              refine lv_goto (tgt := 20) hx hb dX11_unlike_47 (by decide) ?_
              exact ih20 ls f_20 H locs z26 z27 (show 7 - z27.toInt < _ by omega) (lv_cons hl 2 rfl (lv_cons hl 3 rfl (lv_cons hl 4 rfl (lv_cons hl 1 rfl (lv_cons hl 0 rfl (lv_nil hl)))))) h t_20 o_20 (iv_w i5 (by decide)) iz26 (iv_w iz27 (by decide))
      refine lv_iload_n hx hb dX11_unlike_4 rfl (lv_at hl 2 rfl) ?_
      refine lv_aload_n hx hb dX11_unlike_5 rfl (lv_at hl 0 rfl) ?_
      refine t_getr (tq := 63) C h t_4 hu0 (by decide) wf_60 rfl fl_X11_17 dX11_unlike_6 (fun q28 tq28 => ?_)
      refine lv_bipush (v := 80) hx hb dX11_unlike_9 (by decide) ?_
      refine t_bk80 C h t_4 tq28 (by decide) wf_63 dX11_unlike_11 (fun z29 iz29 => ?_)
      refine lv_icmp_ge (tgt := 68) hx hb dX11_unlike_12 (by decide) (fun c30 => ?_) (fun c30 => ?_)
      · have c31 : z29.toInt ≤ v4_2.toInt := Int32.le_iff_toInt_le.mp c30
        refine lv_iload_n hx hb dX11_unlike_68 rfl (lv_at hl 1 rfl) ?_
        exact u_iret C h hr hQ (⟨iv4_1, t_4, o_4⟩) (Nat.le_of_ble_eq_true rfl) (Nat.le_of_ble_eq_true rfl) dX11_unlike_69
      · have c32 : v4_2.toInt < z29.toInt := Int32.lt_iff_toInt_lt.mp (iv_nle c30)
        have i33 : iv v4_2 0 7 := iv_Ll c32 iv4_2 iz29 (by decide)
        have i34 : iv z29 1 8 := iv_Lr c32 iv4_2 iz29 (by decide)
        refine lv_iconst (v := 1) hx hb dX11_unlike_15 (by decide) ?_
        refine lv_istore_n (lv' := [(3, .int 1), (0, .ref u0), (1, .int v4_1), (2, .int v4_2)]) hx hb dX11_unlike_16 rfl hl (by decide) rfl (fun ls hl => ?_)
        refine lv_iconst (v := 0) hx hb dX11_unlike_17 (by decide) ?_
        refine lv_istore (lv' := [(4, .int 0), (3, .int 1), (0, .ref u0), (1, .int v4_1), (2, .int v4_2)]) hx hb dX11_unlike_18 hl (by decide) rfl (fun ls hl => ?_)
        exact L20 8 ls f_4 H locs 1 0 (by decide) (lv_cons hl 2 rfl (lv_cons hl 3 rfl (lv_cons hl 4 rfl (lv_cons hl 1 rfl (lv_cons hl 0 rfl (lv_nil hl)))))) h t_4 o_4 i33 ⟨by decide, by decide⟩ ⟨by decide, by decide⟩
  refine lv_iconst (v := 0) hx hb dX11_unlike_0 (by decide) ?_
  refine lv_istore_n (lv' := [(1, .int 0), (0, .ref u0)]) hx hb dX11_unlike_1 rfl hl (by decide) rfl (fun ls hl => ?_)
  refine lv_iconst (v := 0) hx hb dX11_unlike_2 (by decide) ?_
  refine lv_istore_n (lv' := [(2, .int 0), (1, .int 0), (0, .ref u0)]) hx hb dX11_unlike_3 rfl hl (by decide) rfl (fun ls hl => ?_)
  exact L4 9 ls f s.heap [] 0 0 (by decide) (lv_cons hl 2 rfl (lv_cons hl 1 rfl (lv_cons hl 0 rfl (lv_nil hl)))) h t o ⟨by decide, by decide⟩ ⟨by decide, by decide⟩
abbrev rm_s_X11_most : Room := { frames := 9, cells := 0, slots := 0, locals := 226 }
set_option maxRecDepth 100000 in
set_option maxHeartbeats 4000000 in
theorem s_X11_most (l : Launch) (D : va_G) (G : Nat → Nat) (b0 : Nat) (τ : Nat → Nat) (f : hM) (t : TI G 9 τ f) (u0 : Nat) (hu0 : τ u0 = 60) (u1 : Int32) (hu1 : iv u1 (-2147483648) 2147483647) : mI l yX11_most cX11_most 4 (.int) rm_s_X11_most D G b0 f [.ref u0, .int u1] (fun r f1 => iv r (-2147483648) 2147483647 ∧ TI G 9 τ f1 ∧ Fr [60, 71, 81, 60001] τ f f1) := by
  refine met2 (own := RX11) (by decide) rfl (Nat.le_of_ble_eq_true rfl) ?_
  intro p e s m args below meth c ls Q hQ C hr hini hl h
  have hl : lv_has ls 4 [(0, .ref u0), (1, .int u1)] := hl
  obtain ⟨hx, hb, hml, hown, hts, hE0, hlk⟩ := id C
  have o := Fr.rf [60, 71, 81, 60001] τ f
  have L56 : ∀ (n56 : Nat) (ls : Array Slot) (f_56 : hM) (H : Heap) (locs : List Loc) (v56_2 : Int32) (v56_3 : Int32), 8 - v56_3.toInt < (n56 : Int) → lv_has ls 4 [(0, .ref u0), (2, .int v56_2), (3, .int v56_3)] → hw D b0 s.heap f_56 H locs → TI G 9 τ f_56 → Fr [60, 71, 81, 60001] τ f f_56 → iv v56_2 (-2147483648) 2147483647 → iv v56_3 0 8 → W p l e rm_s_X11_most s m args below meth c H locs 0 0 Q (F0 m 56 ls []) := by
    intro n56
    induction n56 with
    | zero => intro ls f_56 H locs v56_2 v56_3 hm56 hl h t_56 o_56 iv56_2 iv56_3; exact absurd hm56 (by omega)
    | succ n56 ih56 =>
      intro ls f_56 H locs v56_2 v56_3 hm56 hl h t_56 o_56 iv56_2 iv56_3
      refine lv_iload_n hx hb dX11_most_56 rfl (lv_at hl 2 rfl) ?_
      refine lv_aload_n hx hb dX11_most_57 rfl (lv_at hl 0 rfl) ?_
      refine t_getr (tq := 63) C h t_56 hu0 (by decide) wf_60 rfl fl_X11_17 dX11_most_58 (fun q1 tq1 => ?_)
      refine lv_bipush (v := 80) hx hb dX11_most_61 (by decide) ?_
      refine t_bk80 C h t_56 tq1 (by decide) wf_63 dX11_most_63 (fun z2 iz2 => ?_)
      refine lv_icmp_ge (tgt := 81) hx hb dX11_most_64 (by decide) (fun c3 => ?_) (fun c3 => ?_)
      · have c4 : z2.toInt ≤ v56_3.toInt := Int32.le_iff_toInt_le.mp c3
        refine lv_iload_n hx hb dX11_most_81 rfl (lv_at hl 1 rfl) ?_
        exact u_iret C h hr hQ (⟨iv56_2, t_56, o_56⟩) (Nat.le_of_ble_eq_true rfl) (Nat.le_of_ble_eq_true rfl) dX11_most_82
      · have c5 : v56_3.toInt < z2.toInt := Int32.lt_iff_toInt_lt.mp (iv_nle c3)
        have i6 : iv v56_3 0 7 := iv_Ll c5 iv56_3 iz2 (by decide)
        have i7 : iv z2 1 8 := iv_Lr c5 iv56_3 iz2 (by decide)
        refine lv_iload_n hx hb dX11_most_67 rfl (lv_at hl 1 rfl) ?_
        refine lv_aload_n hx hb dX11_most_68 rfl (lv_at hl 0 rfl) ?_
        refine lv_iload_n hx hb dX11_most_69 rfl (lv_at hl 2 rfl) ?_
        obtain ⟨_, r8⟩ := t_rec t_56 hu0 (by decide) wf_60
        refine k_i (r_V C h hl (As := [.int v56_3]) (rest := [.int v56_2]) (s_X11_bitsOf l D G b0 τ f_56 t_56 u0 hu0 v56_3 i6) r8 (Cn := RX11) (T := TX11) (N := 32) rfl rfl mk_X11_bitsOf w_1681 w_1683 w_56 w_1684 ⟨Nat.le_of_ble_eq_true rfl, Nat.le_of_ble_eq_true rfl⟩ rfl (Nat.le_of_ble_eq_true rfl) ⟨Nat.le_of_ble_eq_true rfl, Nat.le_of_ble_eq_true rfl⟩ rfl dX11_most_70) h (fun r9 f10 H locs p11 h => ?_)
        obtain ⟨ir9, tf10, ogf10⟩ := p11
        have egf10 := Fr.nil2 ogf10
        subst egf10
        refine lv_iand hx hb dX11_most_73 (i_top (iv_any _) (fun z12 ez12 iz12 => ?_))
        refine lv_istore_n (lv' := [(2, .int z12), (0, .ref u0), (3, .int v56_3)]) hx hb dX11_most_74 rfl hl (by decide) rfl (fun ls hl => ?_)
        refine i_inc hx hb dX11_most_75 hl (k := 2) rfl i6 rfl (lo := 1) (hi := 8) (by decide) (by decide) (lv' := fun v => [(3, .int v), (2, .int z12), (0, .ref u0)]) (fun _ => rfl) (fun z13 ls ez13 mz13 iz13 hl => ?_)
        refine lv_goto (tgt := 56) hx hb dX11_most_78 (by decide) ?_
        exact ih56 ls f_56 H locs z12 z13 (show 8 - z13.toInt < _ by omega) (lv_cons hl 2 rfl (lv_cons hl 1 rfl (lv_cons hl 0 rfl (lv_nil hl)))) h t_56 o_56 iz12 (iv_w iz13 (by decide))
  refine lv_aload_n hx hb dX11_most_0 rfl (lv_at hl 0 rfl) ?_
  refine lv_iconst (v := 0) hx hb dX11_most_1 (by decide) ?_
  refine t_put C h t o hu0 (by decide) (by decide) (by decide) wf_60 fw_60 (k := 0) rfl flw_X11_75 (Or.inr ⟨_, _, _, rfl, rfl⟩) (v := .int 0) rfl rfl ⟨_, rfl, ⟨by decide, by decide⟩⟩ dX11_most_2 (fun f14 H locs h tf14 of14 hq ha_ hn_ hk_ => ?_)
  have k15 := ha_
  refine lv_iload_n hx hb dX11_most_5 rfl (lv_at hl 1 rfl) ?_
  refine lv_iconst (v := 3) hx hb dX11_most_6 (by decide) ?_
  refine lv_icmp_ne (tgt := 15) hx hb dX11_most_7 (by decide) (fun c16 => ?_) (fun c16 => ?_)
  · have c17 : u1.toInt ≠ 3 := fun z_ => c16 (Int32.toInt_inj.mp z_)
    refine lv_aload_n hx hb dX11_most_15 rfl (lv_at hl 0 rfl) ?_
    refine t_getr (tq := 63) C h tf14 hu0 (by decide) wf_60 rfl fl_X11_17 dX11_most_16 (fun q20 tq20 => ?_)
    refine lv_bipush (v := 80) hx hb dX11_most_19 (by decide) ?_
    refine t_bk80 C h tf14 tq20 (by decide) wf_63 dX11_most_21 (fun z21 iz21 => ?_)
    refine lv_if_eq (tgt := 37) hx hb dX11_most_22 (by decide) (fun c22 => ?_) (fun c22 => ?_)
    · have c23 : z21.toInt = 0 := congrArg Int32.toInt c22
      have i24 : iv z21 0 0 := iv_Q c23 iz21 (iv_k (x := 0) (k := 0) rfl) (by decide)
      refine lv_iconst (v := -1) hx hb dX11_most_37 (by decide) ?_
      exact u_iret C h hr hQ (⟨⟨by decide, by decide⟩, tf14, of14⟩) (Nat.le_of_ble_eq_true rfl) (Nat.le_of_ble_eq_true rfl) dX11_most_38
    · have c25 : z21.toInt ≠ 0 := fun z_ => c22 (Int32.toInt_inj.mp z_)
      have i26 : iv z21 1 8 := iv_Nl c25 iz21 (by decide)
      refine lv_iload_n hx hb dX11_most_25 rfl (lv_at hl 1 rfl) ?_
      refine lv_i2l hx hb dX11_most_26 rfl (i_topL hu1 (fun w27 ew27 mw27 iw27 => ?_))
      refine lv_lconst (v := 0) hx hb dX11_most_27 (by decide) ?_
      refine lv_ldc2 (v := 4) hx hb hown (hts _ w_1730) dX11_most_28 ?_
      refine k_i (r_S C h hl (As := [.long w27, .long 0, .long 4]) (rest := []) (s_X11_isIn l D G b0 τ f14 tf14 w27 0 4) mk_X11_isIn w_1624 w_1625 w_1626 ⟨Nat.le_of_ble_eq_true rfl, Nat.le_of_ble_eq_true rfl⟩ rfl (Nat.le_of_ble_eq_true rfl) ⟨Nat.le_of_ble_eq_true rfl, Nat.le_of_ble_eq_true rfl⟩ rfl dX11_most_31) h (fun r28 f29 H locs p30 h => ?_)
      have n31 : (0 : Int64).toInt = 0 := rfl
      have n32 : (4 : Int64).toInt = 4 := rfl
      obtain ⟨ir28, tf29, ogf29, cnr28⟩ := p30
      have egf29 := Fr.nil2 ogf29
      subst egf29
      refine lv_if_ne (tgt := 39) hx hb dX11_most_34 (by decide) (fun c33 => ?_) (fun c33 => ?_)
      · have c34 : r28.toInt ≠ 0 := fun z_ => c33 (Int32.toInt_inj.mp z_)
        have i35 : iv r28 1 1 := iv_Nl c34 ir28 (by decide)
        obtain ⟨i36, i37⟩ := cnr28 c34
        have i38 : iv u1 0 4 := ⟨by omega, by omega⟩
        refine lv_iload_n hx hb dX11_most_39 rfl (lv_at hl 1 rfl) ?_
        refine lv_iconst (v := 3) hx hb dX11_most_40 (by decide) ?_
        refine lv_icmp_ge (tgt := 50) hx hb dX11_most_41 (by decide) (fun c41 => ?_) (fun c41 => ?_)
        · have c42 : 3 ≤ u1.toInt := Int32.le_iff_toInt_le.mp c41
          have i43 : iv u1 3 4 := iv_Er c42 (iv_k (x := 3) (k := 3) rfl) i38 (by decide)
          refine lv_sipush (v := 255) hx hb dX11_most_50 (by decide) ?_
          refine lv_istore_n (lv' := [(2, .int 255), (0, .ref u0), (1, .int u1)]) hx hb dX11_most_53 rfl hl (by decide) rfl (fun ls hl => ?_)
          refine lv_iconst (v := 0) hx hb dX11_most_54 (by decide) ?_
          refine lv_istore_n (lv' := [(3, .int 0), (2, .int 255), (0, .ref u0), (1, .int u1)]) hx hb dX11_most_55 rfl hl (by decide) rfl (fun ls hl => ?_)
          exact L56 9 ls f14 H locs 255 0 (by decide) (lv_cons hl 2 rfl (lv_cons hl 1 rfl (lv_cons hl 0 rfl (lv_nil hl)))) h tf14 of14 ⟨by decide, by decide⟩ ⟨by decide, by decide⟩
        · have c44 : u1.toInt < 3 := Int32.lt_iff_toInt_lt.mp (iv_nle c41)
          have i45 : iv u1 0 2 := iv_Ll c44 i38 (iv_k (x := 3) (k := 3) rfl) (by decide)
          refine lv_aload_n hx hb dX11_most_44 rfl (lv_at hl 0 rfl) ?_
          refine lv_iload_n hx hb dX11_most_45 rfl (lv_at hl 1 rfl) ?_
          obtain ⟨_, r46⟩ := t_rec tf14 hu0 (by decide) wf_60
          refine k_i (r_V C h hl (As := [.int u1]) (rest := []) (s_X11_mostBy l D G b0 τ f14 tf14 u0 hu0 u1 (iv_w i45 (by decide))) r46 (Cn := RX11) (T := TX11) (N := 32) rfl rfl mk_X11_mostBy w_2046 w_2048 w_93 w_2049 ⟨Nat.le_of_ble_eq_true rfl, Nat.le_of_ble_eq_true rfl⟩ rfl (Nat.le_of_ble_eq_true rfl) ⟨Nat.le_of_ble_eq_true rfl, Nat.le_of_ble_eq_true rfl⟩ rfl dX11_most_46) h (fun r47 f48 H locs p49 h => ?_)
          obtain ⟨ir47, tf48, ogf48⟩ := p49
          have of48 : Fr [60, 71, 81, 60001] τ f f48 := Fr.tr of14 ogf48 (by decide) (by decide)
          exact u_iret C h hr hQ (⟨(iv_w ir47 (by decide)), tf48, of48⟩) (Nat.le_of_ble_eq_true rfl) (Nat.le_of_ble_eq_true rfl) dX11_most_49
      · have c39 : r28.toInt = 0 := congrArg Int32.toInt c33
        have i40 : iv r28 0 0 := iv_Q c39 ir28 (iv_k (x := 0) (k := 0) rfl) (by decide)
        refine lv_iconst (v := -1) hx hb dX11_most_37 (by decide) ?_
        exact u_iret C h hr hQ (⟨⟨by decide, by decide⟩, tf14, of14⟩) (Nat.le_of_ble_eq_true rfl) (Nat.le_of_ble_eq_true rfl) dX11_most_38
  · have c18 : u1.toInt = 3 := congrArg Int32.toInt c16
    have i19 : iv u1 3 3 := iv_Q c18 hu1 (iv_k (x := 3) (k := 3) rfl) (by decide)
    refine lv_aload_n hx hb dX11_most_10 rfl (lv_at hl 0 rfl) ?_
    obtain ⟨_, r50⟩ := t_rec tf14 hu0 (by decide) wf_60
    refine k_i (r_V C h hl (As := []) (rest := []) (s_X11_unlike l D G b0 τ f14 tf14 u0 hu0) r50 (Cn := RX11) (T := TX11) (N := 32) rfl rfl mk_X11_unlike w_2038 w_2040 w_91 w_2041 ⟨Nat.le_of_ble_eq_true rfl, Nat.le_of_ble_eq_true rfl⟩ rfl (Nat.le_of_ble_eq_true rfl) ⟨Nat.le_of_ble_eq_true rfl, Nat.le_of_ble_eq_true rfl⟩ rfl dX11_most_11) h (fun r51 f52 H locs p53 h => ?_)
    obtain ⟨ir51, tf52, ogf52⟩ := p53
    have egf52 := Fr.nil2 ogf52
    subst egf52
    exact u_iret C h hr hQ (⟨ir51, tf14, of14⟩) (Nat.le_of_ble_eq_true rfl) (Nat.le_of_ble_eq_true rfl) dX11_most_14
abbrev rm_s_X11_count : Room := { frames := 0, cells := 0, slots := 0, locals := 0 }
set_option maxRecDepth 100000 in
set_option maxHeartbeats 4000000 in
theorem s_X11_count (l : Launch) (D : va_G) (G : Nat → Nat) (b0 : Nat) (τ : Nat → Nat) (f : hM) (t : TI G 9 τ f) (u0 : Nat) (hu0 : τ u0 = 60) (u1 : Int32) (hu1 : iv u1 (-2147483648) 2147483647) : mI l yX11_count cX11_count 2 (.int) rm_s_X11_count D G b0 f [.ref u0, .int u1] (fun r f1 => iv r (-1) 200 ∧ TI G 9 τ f1 ∧ Fr [60, 60001] τ f f1) := by
  refine met2 (own := RX11) (by decide) rfl (Nat.le_of_ble_eq_true rfl) ?_
  intro p e s m args below meth c ls Q hQ C hr hini hl h
  have hl : lv_has ls 2 [(0, .ref u0), (1, .int u1)] := hl
  obtain ⟨hx, hb, hml, hown, hts, hE0, hlk⟩ := id C
  have o := Fr.rf [60, 60001] τ f
  refine lv_aload_n hx hb dX11_count_0 rfl (lv_at hl 0 rfl) ?_
  refine lv_iconst (v := 0) hx hb dX11_count_1 (by decide) ?_
  refine t_put C h t o hu0 (by decide) (by decide) (by decide) wf_60 fw_60 (k := 0) rfl flw_X11_75 (Or.inr ⟨_, _, _, rfl, rfl⟩) (v := .int 0) rfl rfl ⟨_, rfl, ⟨by decide, by decide⟩⟩ dX11_count_2 (fun f1 H locs h tf1 of1 hq ha_ hn_ hk_ => ?_)
  have k2 := ha_
  refine lv_iload_n hx hb dX11_count_5 rfl (lv_at hl 1 rfl) ?_
  refine lv_if_ne (tgt := 16) hx hb dX11_count_6 (by decide) (fun c3 => ?_) (fun c3 => ?_)
  · have c4 : u1.toInt ≠ 0 := fun z_ => c3 (Int32.toInt_inj.mp z_)
    refine lv_iload_n hx hb dX11_count_16 rfl (lv_at hl 1 rfl) ?_
    refine lv_iconst (v := 1) hx hb dX11_count_17 (by decide) ?_
    refine lv_icmp_ne (tgt := 28) hx hb dX11_count_18 (by decide) (fun c7 => ?_) (fun c7 => ?_)
    · have c8 : u1.toInt ≠ 1 := fun z_ => c7 (Int32.toInt_inj.mp z_)
      refine lv_iload_n hx hb dX11_count_28 rfl (lv_at hl 1 rfl) ?_
      refine lv_iconst (v := 2) hx hb dX11_count_29 (by decide) ?_
      refine lv_icmp_ne (tgt := 43) hx hb dX11_count_30 (by decide) (fun c11 => ?_) (fun c11 => ?_)
      · have c12 : u1.toInt ≠ 2 := fun z_ => c11 (Int32.toInt_inj.mp z_)
        refine lv_iconst (v := -1) hx hb dX11_count_43 (by decide) ?_
        exact u_iret C h hr hQ (⟨⟨by decide, by decide⟩, tf1, of1⟩) (Nat.le_of_ble_eq_true rfl) (Nat.le_of_ble_eq_true rfl) dX11_count_44
      · have c13 : u1.toInt = 2 := congrArg Int32.toInt c11
        have i14 : iv u1 2 2 := iv_Q c13 hu1 (iv_k (x := 2) (k := 2) rfl) (by decide)
        refine lv_aload_n hx hb dX11_count_33 rfl (lv_at hl 0 rfl) ?_
        refine t_getr (tq := 63) C h tf1 hu0 (by decide) wf_60 rfl fl_X11_17 dX11_count_34 (fun q15 tq15 => ?_)
        refine lv_bipush (v := 80) hx hb dX11_count_37 (by decide) ?_
        refine t_bk80 C h tf1 tq15 (by decide) wf_63 dX11_count_39 (fun z16 iz16 => ?_)
        refine lv_goto (tgt := 44) hx hb dX11_count_40 (by decide) ?_
        exact u_iret C h hr hQ (⟨(iv_w iz16 (by decide)), tf1, of1⟩) (Nat.le_of_ble_eq_true rfl) (Nat.le_of_ble_eq_true rfl) dX11_count_44
    · have c9 : u1.toInt = 1 := congrArg Int32.toInt c7
      have i10 : iv u1 1 1 := iv_Q c9 hu1 (iv_k (x := 1) (k := 1) rfl) (by decide)
      refine lv_aload_n hx hb dX11_count_21 rfl (lv_at hl 0 rfl) ?_
      refine t_geti C h tf1 hu0 (by decide) wf_60 rfl fl_X11_155 dX11_count_22 (fun z17 iz17 => ?_)
      refine lv_goto (tgt := 44) hx hb dX11_count_25 (by decide) ?_
      exact u_iret C h hr hQ (⟨(iv_w iz17 (by decide)), tf1, of1⟩) (Nat.le_of_ble_eq_true rfl) (Nat.le_of_ble_eq_true rfl) dX11_count_44
  · have c5 : u1.toInt = 0 := congrArg Int32.toInt c3
    have i6 : iv u1 0 0 := iv_Q c5 hu1 (iv_k (x := 0) (k := 0) rfl) (by decide)
    refine lv_aload_n hx hb dX11_count_9 rfl (lv_at hl 0 rfl) ?_
    refine t_geti C h tf1 hu0 (by decide) wf_60 rfl fl_X11_79 dX11_count_10 (fun z18 iz18 => ?_)
    refine lv_goto (tgt := 44) hx hb dX11_count_13 (by decide) ?_
    exact u_iret C h hr hQ (⟨(iv_w iz18 (by decide)), tf1, of1⟩) (Nat.le_of_ble_eq_true rfl) (Nat.le_of_ble_eq_true rfl) dX11_count_44
abbrev rm_s_X11_rule : Room := { frames := 2, cells := 0, slots := 0, locals := 46 }
set_option maxRecDepth 100000 in
set_option maxHeartbeats 4000000 in
theorem s_X11_rule (l : Launch) (D : va_G) (G : Nat → Nat) (b0 : Nat) (τ : Nat → Nat) (f : hM) (t : TI G 9 τ f) (u0 : Nat) (hu0 : τ u0 = 60) (u1 : Int32) (hu1 : iv u1 (-2147483648) 2147483647) (u2 : Int32) (hu2 : iv u2 (-2147483648) 2147483647) : mI l yX11_rule cX11_rule 3 (.int) rm_s_X11_rule D G b0 f [.ref u0, .int u1, .int u2] (fun r f1 => iv r (-2147483648) 2147483647 ∧ TI G 9 τ f1 ∧ Fr [60, 60001] τ f f1) := by
  refine met2 (own := RX11) (by decide) rfl (Nat.le_of_ble_eq_true rfl) ?_
  intro p e s m args below meth c ls Q hQ C hr hini hl h
  have hl : lv_has ls 3 [(0, .ref u0), (1, .int u1), (2, .int u2)] := hl
  obtain ⟨hx, hb, hml, hown, hts, hE0, hlk⟩ := id C
  have o := Fr.rf [60, 60001] τ f
  refine lv_aload_n hx hb dX11_rule_0 rfl (lv_at hl 0 rfl) ?_
  refine lv_aload_n hx hb dX11_rule_1 rfl (lv_at hl 0 rfl) ?_
  refine lv_iload_n hx hb dX11_rule_2 rfl (lv_at hl 1 rfl) ?_
  obtain ⟨_, r1⟩ := t_rec t hu0 (by decide) wf_60
  refine k_i (r_V C h hl (As := [.int u1]) (rest := [.ref u0]) (s_X11_isSet l D G b0 τ f t u0 hu0 u1 hu1) r1 (Cn := RX11) (T := TX11) (N := 32) rfl rfl mk_X11_isSet w_1620 w_1622 w_51 w_1623 ⟨Nat.le_of_ble_eq_true rfl, Nat.le_of_ble_eq_true rfl⟩ rfl (Nat.le_of_ble_eq_true rfl) ⟨Nat.le_of_ble_eq_true rfl, Nat.le_of_ble_eq_true rfl⟩ rfl dX11_rule_3) h (fun r2 f3 H locs p4 h => ?_)
  obtain ⟨ir2, tf3, ogf3, cnr2⟩ := p4
  have egf3 := Fr.nil2 ogf3
  subst egf3
  refine lv_if_eq (tgt := 25) hx hb dX11_rule_6 (by decide) (fun c5 => ?_) (fun c5 => ?_)
  · have c6 : r2.toInt = 0 := congrArg Int32.toInt c5
    have i7 : iv r2 0 0 := iv_Q c6 ir2 (iv_k (x := 0) (k := 0) rfl) (by decide)
    refine lv_iconst (v := 1) hx hb dX11_rule_25 (by decide) ?_
    refine t_put C h t o hu0 (by decide) (by decide) (by decide) wf_60 fw_60 (k := 0) rfl flw_X11_75 (Or.inr ⟨_, _, _, rfl, rfl⟩) (v := .int 1) rfl rfl ⟨_, rfl, ⟨by decide, by decide⟩⟩ dX11_rule_26 (fun f11 H locs h tf11 of11 hq ha_ hn_ hk_ => ?_)
    have k12 := ha_
    refine lv_aload_n hx hb dX11_rule_29 rfl (lv_at hl 0 rfl) ?_
    refine t_getfd C h tf11 hu0 (by decide) wf_60 (v := .int 1) k12 fl_X11_75 dX11_rule_30 ?_
    refine lv_if_le (tgt := 38) hx hb dX11_rule_33 (by decide) (fun c13 => ?_) (fun c13 => ?_)
    · exact absurd c13 (by decide)
    · refine lv_iconst (v := 0) hx hb dX11_rule_36 (by decide) ?_
      exact u_iret C h hr hQ (⟨⟨by decide, by decide⟩, tf11, of11⟩) (Nat.le_of_ble_eq_true rfl) (Nat.le_of_ble_eq_true rfl) dX11_rule_37
  · have c8 : r2.toInt ≠ 0 := fun z_ => c5 (Int32.toInt_inj.mp z_)
    have i9 : iv r2 1 1 := iv_Nl c8 ir2 (by decide)
    have i10 := cnr2 c8
    refine lv_iload_n hx hb dX11_rule_9 rfl (lv_at hl 2 rfl) ?_
    refine lv_i2l hx hb dX11_rule_10 rfl (i_topL hu2 (fun w16 ew16 mw16 iw16 => ?_))
    refine lv_lconst (v := 0) hx hb dX11_rule_11 (by decide) ?_
    refine lv_ldc2 (v := 14) hx hb hown (hts _ w_1670) dX11_rule_12 ?_
    refine k_i (r_S C h hl (As := [.long w16, .long 0, .long 14]) (rest := [.ref u0]) (s_X11_isIn l D G b0 τ f t w16 0 14) mk_X11_isIn w_1624 w_1625 w_1626 ⟨Nat.le_of_ble_eq_true rfl, Nat.le_of_ble_eq_true rfl⟩ rfl (Nat.le_of_ble_eq_true rfl) ⟨Nat.le_of_ble_eq_true rfl, Nat.le_of_ble_eq_true rfl⟩ rfl dX11_rule_15) h (fun r17 f18 H locs p19 h => ?_)
    have n20 : (0 : Int64).toInt = 0 := rfl
    have n21 : (14 : Int64).toInt = 14 := rfl
    obtain ⟨ir17, tf18, ogf18, cnr17⟩ := p19
    have egf18 := Fr.nil2 ogf18
    subst egf18
    refine lv_if_eq (tgt := 25) hx hb dX11_rule_18 (by decide) (fun c22 => ?_) (fun c22 => ?_)
    · have c23 : r17.toInt = 0 := congrArg Int32.toInt c22
      have i24 : iv r17 0 0 := iv_Q c23 ir17 (iv_k (x := 0) (k := 0) rfl) (by decide)
      refine lv_iconst (v := 1) hx hb dX11_rule_25 (by decide) ?_
      refine t_put C h t o hu0 (by decide) (by decide) (by decide) wf_60 fw_60 (k := 0) rfl flw_X11_75 (Or.inr ⟨_, _, _, rfl, rfl⟩) (v := .int 1) rfl rfl ⟨_, rfl, ⟨by decide, by decide⟩⟩ dX11_rule_26 (fun f30 H locs h tf30 of30 hq ha_ hn_ hk_ => ?_)
      have k31 := ha_
      refine lv_aload_n hx hb dX11_rule_29 rfl (lv_at hl 0 rfl) ?_
      refine t_getfd C h tf30 hu0 (by decide) wf_60 (v := .int 1) k31 fl_X11_75 dX11_rule_30 ?_
      refine lv_if_le (tgt := 38) hx hb dX11_rule_33 (by decide) (fun c32 => ?_) (fun c32 => ?_)
      · exact absurd c32 (by decide)
      · refine lv_iconst (v := 0) hx hb dX11_rule_36 (by decide) ?_
        exact u_iret C h hr hQ (⟨⟨by decide, by decide⟩, tf30, of30⟩) (Nat.le_of_ble_eq_true rfl) (Nat.le_of_ble_eq_true rfl) dX11_rule_37
    · have c25 : r17.toInt ≠ 0 := fun z_ => c22 (Int32.toInt_inj.mp z_)
      have i26 : iv r17 1 1 := iv_Nl c25 ir17 (by decide)
      obtain ⟨i27, i28⟩ := cnr17 c25
      have i29 : iv u2 0 14 := ⟨by omega, by omega⟩
      refine lv_iconst (v := 0) hx hb dX11_rule_21 (by decide) ?_
      refine lv_goto (tgt := 26) hx hb dX11_rule_22 (by decide) ?_
      refine t_put C h t o hu0 (by decide) (by decide) (by decide) wf_60 fw_60 (k := 0) rfl flw_X11_75 (Or.inr ⟨_, _, _, rfl, rfl⟩) (v := .int 0) rfl rfl ⟨_, rfl, ⟨by decide, by decide⟩⟩ dX11_rule_26 (fun f35 H locs h tf35 of35 hq ha_ hn_ hk_ => ?_)
      have k36 := ha_
      refine lv_aload_n hx hb dX11_rule_29 rfl (lv_at hl 0 rfl) ?_
      refine t_getfd C h tf35 hu0 (by decide) wf_60 (v := .int 0) k36 fl_X11_75 dX11_rule_30 ?_
      refine lv_if_le (tgt := 38) hx hb dX11_rule_33 (by decide) (fun c37 => ?_) (fun c37 => ?_)
      · refine lv_iload_n hx hb dX11_rule_38 rfl (lv_at hl 2 rfl) ?_
        rcases sw_8_14 u2 with c40 | c40 | c40 | c40 | c40 | c40 | c40 | c40
        · refine lv_tableIn (tgt := 80) hx hb dX11_rule_39 (by rw [c40]; decide) (by rw [c40]; decide) (off := 41) (by rw [c40]; rfl) (by decide) ?_
          have i41 : iv u2 8 8 := by rw [c40]; exact iv_k rfl
          refine lv_aload_n hx hb dX11_rule_80 rfl (lv_at hl 0 rfl) ?_
          refine lv_iload_n hx hb dX11_rule_81 rfl (lv_at hl 1 rfl) ?_
          obtain ⟨_, r48⟩ := t_rec tf35 hu0 (by decide) wf_60
          refine k_i (r_V C h hl (As := [.int u1]) (rest := []) (s_X11_stepsOf l D G b0 τ f35 tf35 u0 hu0 u1 i10) r48 (Cn := RX11) (T := TX11) (N := 32) rfl rfl mk_X11_stepsOf w_1658 w_1660 w_54 w_1661 ⟨Nat.le_of_ble_eq_true rfl, Nat.le_of_ble_eq_true rfl⟩ rfl (Nat.le_of_ble_eq_true rfl) ⟨Nat.le_of_ble_eq_true rfl, Nat.le_of_ble_eq_true rfl⟩ rfl dX11_rule_82) h (fun r49 f50 H locs p51 h => ?_)
          obtain ⟨ir49, tf50, ogf50⟩ := p51
          have egf50 := Fr.nil2 ogf50
          subst egf50
          exact u_iret C h hr hQ (⟨ir49, tf35, of35⟩) (Nat.le_of_ble_eq_true rfl) (Nat.le_of_ble_eq_true rfl) dX11_rule_85
        · refine lv_tableIn (tgt := 86) hx hb dX11_rule_39 (by rw [c40]; decide) (by rw [c40]; decide) (off := 47) (by rw [c40]; rfl) (by decide) ?_
          have i42 : iv u2 9 9 := by rw [c40]; exact iv_k rfl
          refine lv_aload_n hx hb dX11_rule_86 rfl (lv_at hl 0 rfl) ?_
          refine lv_iload_n hx hb dX11_rule_87 rfl (lv_at hl 1 rfl) ?_
          obtain ⟨_, r52⟩ := t_rec tf35 hu0 (by decide) wf_60
          refine k_i (r_V C h hl (As := [.int u1]) (rest := []) (s_X11_worthOf l D G b0 τ f35 tf35 u0 hu0 u1 i10) r52 (Cn := RX11) (T := TX11) (N := 32) rfl rfl mk_X11_worthOf w_1649 w_1651 w_53 w_1652 ⟨Nat.le_of_ble_eq_true rfl, Nat.le_of_ble_eq_true rfl⟩ rfl (Nat.le_of_ble_eq_true rfl) ⟨Nat.le_of_ble_eq_true rfl, Nat.le_of_ble_eq_true rfl⟩ rfl dX11_rule_88) h (fun r53 f54 H locs p55 h => ?_)
          obtain ⟨ir53, tf54, ogf54⟩ := p55
          have egf54 := Fr.nil2 ogf54
          subst egf54
          exact u_iret C h hr hQ (⟨ir53, tf35, of35⟩) (Nat.le_of_ble_eq_true rfl) (Nat.le_of_ble_eq_true rfl) dX11_rule_91
        · refine lv_tableIn (tgt := 92) hx hb dX11_rule_39 (by rw [c40]; decide) (by rw [c40]; decide) (off := 53) (by rw [c40]; rfl) (by decide) ?_
          have i43 : iv u2 10 10 := by rw [c40]; exact iv_k rfl
          refine lv_aload_n hx hb dX11_rule_92 rfl (lv_at hl 0 rfl) ?_
          refine lv_iload_n hx hb dX11_rule_93 rfl (lv_at hl 1 rfl) ?_
          refine lv_bipush (v := 8) hx hb dX11_rule_94 (by decide) ?_
          obtain ⟨_, r56⟩ := t_rec tf35 hu0 (by decide) wf_60
          refine k_i (r_V C h hl (As := [.int u1, .int 8]) (rest := []) (s_X11_weightOf l D G b0 τ f35 tf35 u0 hu0 u1 i10 8 (iv_w (iv_k (x := 8) (k := 8) rfl) (by decide))) r56 (Cn := RX11) (T := TX11) (N := 32) rfl rfl mk_X11_weightOf w_1631 w_1633 w_52 w_1634 ⟨Nat.le_of_ble_eq_true rfl, Nat.le_of_ble_eq_true rfl⟩ rfl (Nat.le_of_ble_eq_true rfl) ⟨Nat.le_of_ble_eq_true rfl, Nat.le_of_ble_eq_true rfl⟩ rfl dX11_rule_96) h (fun r57 f58 H locs p59 h => ?_)
          obtain ⟨ir57, tf58, ogf58⟩ := p59
          have egf58 := Fr.nil2 ogf58
          subst egf58
          exact u_iret C h hr hQ (⟨(iv_w ir57 (by decide)), tf35, of35⟩) (Nat.le_of_ble_eq_true rfl) (Nat.le_of_ble_eq_true rfl) dX11_rule_99
        · refine lv_tableIn (tgt := 100) hx hb dX11_rule_39 (by rw [c40]; decide) (by rw [c40]; decide) (off := 61) (by rw [c40]; rfl) (by decide) ?_
          have i44 : iv u2 11 11 := by rw [c40]; exact iv_k rfl
          refine lv_aload_n hx hb dX11_rule_100 rfl (lv_at hl 0 rfl) ?_
          refine lv_iload_n hx hb dX11_rule_101 rfl (lv_at hl 1 rfl) ?_
          refine lv_bipush (v := 9) hx hb dX11_rule_102 (by decide) ?_
          obtain ⟨_, r60⟩ := t_rec tf35 hu0 (by decide) wf_60
          refine k_i (r_V C h hl (As := [.int u1, .int 9]) (rest := []) (s_X11_weightOf l D G b0 τ f35 tf35 u0 hu0 u1 i10 9 (iv_w (iv_k (x := 9) (k := 9) rfl) (by decide))) r60 (Cn := RX11) (T := TX11) (N := 32) rfl rfl mk_X11_weightOf w_1631 w_1633 w_52 w_1634 ⟨Nat.le_of_ble_eq_true rfl, Nat.le_of_ble_eq_true rfl⟩ rfl (Nat.le_of_ble_eq_true rfl) ⟨Nat.le_of_ble_eq_true rfl, Nat.le_of_ble_eq_true rfl⟩ rfl dX11_rule_104) h (fun r61 f62 H locs p63 h => ?_)
          obtain ⟨ir61, tf62, ogf62⟩ := p63
          have egf62 := Fr.nil2 ogf62
          subst egf62
          exact u_iret C h hr hQ (⟨(iv_w ir61 (by decide)), tf35, of35⟩) (Nat.le_of_ble_eq_true rfl) (Nat.le_of_ble_eq_true rfl) dX11_rule_107
        · refine lv_tableIn (tgt := 108) hx hb dX11_rule_39 (by rw [c40]; decide) (by rw [c40]; decide) (off := 69) (by rw [c40]; rfl) (by decide) ?_
          have i45 : iv u2 12 12 := by rw [c40]; exact iv_k rfl
          refine lv_aload_n hx hb dX11_rule_108 rfl (lv_at hl 0 rfl) ?_
          refine lv_iload_n hx hb dX11_rule_109 rfl (lv_at hl 1 rfl) ?_
          refine lv_iconst (v := 1) hx hb dX11_rule_110 (by decide) ?_
          obtain ⟨_, r64⟩ := t_rec tf35 hu0 (by decide) wf_60
          refine k_i (r_V C h hl (As := [.int u1, .int 1]) (rest := []) (s_X11_driftOf l D G b0 τ f35 tf35 u0 hu0 u1 i10 1 (iv_w (iv_k (x := 1) (k := 1) rfl) (by decide))) r64 (Cn := RX11) (T := TX11) (N := 32) rfl rfl mk_X11_driftOf w_1671 w_1673 w_55 w_1674 ⟨Nat.le_of_ble_eq_true rfl, Nat.le_of_ble_eq_true rfl⟩ rfl (Nat.le_of_ble_eq_true rfl) ⟨Nat.le_of_ble_eq_true rfl, Nat.le_of_ble_eq_true rfl⟩ rfl dX11_rule_111) h (fun r65 f66 H locs p67 h => ?_)
          obtain ⟨ir65, tf66, ogf66⟩ := p67
          have egf66 := Fr.nil2 ogf66
          subst egf66
          exact u_iret C h hr hQ (⟨ir65, tf35, of35⟩) (Nat.le_of_ble_eq_true rfl) (Nat.le_of_ble_eq_true rfl) dX11_rule_114
        · refine lv_tableIn (tgt := 115) hx hb dX11_rule_39 (by rw [c40]; decide) (by rw [c40]; decide) (off := 76) (by rw [c40]; rfl) (by decide) ?_
          have i46 : iv u2 13 13 := by rw [c40]; exact iv_k rfl
          refine lv_aload_n hx hb dX11_rule_115 rfl (lv_at hl 0 rfl) ?_
          refine lv_iload_n hx hb dX11_rule_116 rfl (lv_at hl 1 rfl) ?_
          refine lv_iconst (v := 0) hx hb dX11_rule_117 (by decide) ?_
          obtain ⟨_, r68⟩ := t_rec tf35 hu0 (by decide) wf_60
          refine k_i (r_V C h hl (As := [.int u1, .int 0]) (rest := []) (s_X11_driftOf l D G b0 τ f35 tf35 u0 hu0 u1 i10 0 (iv_w (iv_k (x := 0) (k := 0) rfl) (by decide))) r68 (Cn := RX11) (T := TX11) (N := 32) rfl rfl mk_X11_driftOf w_1671 w_1673 w_55 w_1674 ⟨Nat.le_of_ble_eq_true rfl, Nat.le_of_ble_eq_true rfl⟩ rfl (Nat.le_of_ble_eq_true rfl) ⟨Nat.le_of_ble_eq_true rfl, Nat.le_of_ble_eq_true rfl⟩ rfl dX11_rule_118) h (fun r69 f70 H locs p71 h => ?_)
          obtain ⟨ir69, tf70, ogf70⟩ := p71
          have egf70 := Fr.nil2 ogf70
          subst egf70
          exact u_iret C h hr hQ (⟨ir69, tf35, of35⟩) (Nat.le_of_ble_eq_true rfl) (Nat.le_of_ble_eq_true rfl) dX11_rule_121
        · refine lv_tableIn (tgt := 122) hx hb dX11_rule_39 (by rw [c40]; decide) (by rw [c40]; decide) (off := 83) (by rw [c40]; rfl) (by decide) ?_
          have i47 : iv u2 14 14 := by rw [c40]; exact iv_k rfl
          refine lv_aload_n hx hb dX11_rule_122 rfl (lv_at hl 0 rfl) ?_
          refine lv_iload_n hx hb dX11_rule_123 rfl (lv_at hl 1 rfl) ?_
          obtain ⟨_, r72⟩ := t_rec tf35 hu0 (by decide) wf_60
          refine k_i (r_V C h hl (As := [.int u1]) (rest := []) (s_X11_bitsOf l D G b0 τ f35 tf35 u0 hu0 u1 i10) r72 (Cn := RX11) (T := TX11) (N := 32) rfl rfl mk_X11_bitsOf w_1681 w_1683 w_56 w_1684 ⟨Nat.le_of_ble_eq_true rfl, Nat.le_of_ble_eq_true rfl⟩ rfl (Nat.le_of_ble_eq_true rfl) ⟨Nat.le_of_ble_eq_true rfl, Nat.le_of_ble_eq_true rfl⟩ rfl dX11_rule_124) h (fun r73 f74 H locs p75 h => ?_)
          obtain ⟨ir73, tf74, ogf74⟩ := p75
          have egf74 := Fr.nil2 ogf74
          subst egf74
          exact u_iret C h hr hQ (⟨ir73, tf35, of35⟩) (Nat.le_of_ble_eq_true rfl) (Nat.le_of_ble_eq_true rfl) dX11_rule_127
        · refine lv_tableOut (tgt := 128) hx hb dX11_rule_39 c40 (by decide) ?_
          refine lv_aload_n hx hb dX11_rule_128 rfl (lv_at hl 0 rfl) ?_
          refine lv_iload_n hx hb dX11_rule_129 rfl (lv_at hl 1 rfl) ?_
          refine lv_iload_n hx hb dX11_rule_130 rfl (lv_at hl 2 rfl) ?_
          obtain ⟨_, r76⟩ := t_rec tf35 hu0 (by decide) wf_60
          refine k_i (r_V C h hl (As := [.int u1, .int u2]) (rest := []) (s_X11_weightOf l D G b0 τ f35 tf35 u0 hu0 u1 i10 u2 (show iv u2 0 9 from by omega)) r76 (Cn := RX11) (T := TX11) (N := 32) rfl rfl mk_X11_weightOf w_1631 w_1633 w_52 w_1634 ⟨Nat.le_of_ble_eq_true rfl, Nat.le_of_ble_eq_true rfl⟩ rfl (Nat.le_of_ble_eq_true rfl) ⟨Nat.le_of_ble_eq_true rfl, Nat.le_of_ble_eq_true rfl⟩ rfl dX11_rule_131) h (fun r77 f78 H locs p79 h => ?_)
          obtain ⟨ir77, tf78, ogf78⟩ := p79
          have egf78 := Fr.nil2 ogf78
          subst egf78
          exact u_iret C h hr hQ (⟨(iv_w ir77 (by decide)), tf35, of35⟩) (Nat.le_of_ble_eq_true rfl) (Nat.le_of_ble_eq_true rfl) dX11_rule_134
      · exact absurd c37 (by decide)
