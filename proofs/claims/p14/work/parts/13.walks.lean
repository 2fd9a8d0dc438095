theorem dX11_walksFrom_0 : decode cX11_walksFrom 0 = .ok (.iconst 0, 1) := by decide +kernel
theorem dX11_walksFrom_1 : decode cX11_walksFrom 1 = .ok (.iload_n 3, 1) := by decide +kernel
theorem dX11_walksFrom_2 : decode cX11_walksFrom 2 = .ok (.iload 4, 2) := by decide +kernel
theorem dX11_walksFrom_4 : decode cX11_walksFrom 4 = .ok (.invokestatic 214, 3) := by decide +kernel
theorem dX11_walksFrom_7 : decode cX11_walksFrom 7 = .ok (.ifCond .ne 5, 3) := by decide +kernel
theorem dX11_walksFrom_12 : decode cX11_walksFrom 12 = .ok (.iload_n 2, 1) := by decide +kernel
theorem dX11_walksFrom_13 : decode cX11_walksFrom 13 = .ok (.ifCond .ne 22, 3) := by decide +kernel
theorem dX11_walksFrom_35 : decode cX11_walksFrom 35 = .ok (.aload_n 0, 1) := by decide +kernel
theorem dX11_walksFrom_36 : decode cX11_walksFrom 36 = .ok (.getfield 17, 3) := by decide +kernel
theorem dX11_walksFrom_39 : decode cX11_walksFrom 39 = .ok (.bipush 10, 2) := by decide +kernel
theorem dX11_walksFrom_41 : decode cX11_walksFrom 41 = .ok (.iload_n 1, 1) := by decide +kernel
theorem dX11_walksFrom_42 : decode cX11_walksFrom 42 = .ok (.imul, 1) := by decide +kernel
theorem dX11_walksFrom_43 : decode cX11_walksFrom 43 = .ok (.bipush 8, 2) := by decide +kernel
theorem dX11_walksFrom_45 : decode cX11_walksFrom 45 = .ok (.iadd, 1) := by decide +kernel
theorem dX11_walksFrom_46 : decode cX11_walksFrom 46 = .ok (.iaload, 1) := by decide +kernel
theorem dX11_walksFrom_47 : decode cX11_walksFrom 47 = .ok (.istore 7, 2) := by decide +kernel
theorem dX11_walksFrom_49 : decode cX11_walksFrom 49 = .ok (.aload_n 0, 1) := by decide +kernel
theorem dX11_walksFrom_50 : decode cX11_walksFrom 50 = .ok (.getfield 17, 3) := by decide +kernel
theorem dX11_walksFrom_53 : decode cX11_walksFrom 53 = .ok (.bipush 10, 2) := by decide +kernel
theorem dX11_walksFrom_55 : decode cX11_walksFrom 55 = .ok (.iload_n 1, 1) := by decide +kernel
theorem dX11_walksFrom_56 : decode cX11_walksFrom 56 = .ok (.imul, 1) := by decide +kernel
theorem dX11_walksFrom_57 : decode cX11_walksFrom 57 = .ok (.bipush 9, 2) := by decide +kernel
theorem dX11_walksFrom_59 : decode cX11_walksFrom 59 = .ok (.iadd, 1) := by decide +kernel
theorem dX11_walksFrom_60 : decode cX11_walksFrom 60 = .ok (.iaload, 1) := by decide +kernel
theorem dX11_walksFrom_61 : decode cX11_walksFrom 61 = .ok (.istore 8, 2) := by decide +kernel
theorem dX11_walksFrom_63 : decode cX11_walksFrom 63 = .ok (.aload_n 0, 1) := by decide +kernel
theorem dX11_walksFrom_64 : decode cX11_walksFrom 64 = .ok (.getfield 17, 3) := by decide +kernel
theorem dX11_walksFrom_67 : decode cX11_walksFrom 67 = .ok (.bipush 10, 2) := by decide +kernel
theorem dX11_walksFrom_69 : decode cX11_walksFrom 69 = .ok (.iload_n 1, 1) := by decide +kernel
theorem dX11_walksFrom_70 : decode cX11_walksFrom 70 = .ok (.imul, 1) := by decide +kernel
theorem dX11_walksFrom_71 : decode cX11_walksFrom 71 = .ok (.bipush 8, 2) := by decide +kernel
theorem dX11_walksFrom_73 : decode cX11_walksFrom 73 = .ok (.iadd, 1) := by decide +kernel
theorem dX11_walksFrom_74 : decode cX11_walksFrom 74 = .ok (.iload_n 3, 1) := by decide +kernel
theorem dX11_walksFrom_75 : decode cX11_walksFrom 75 = .ok (.iastore, 1) := by decide +kernel
theorem dX11_walksFrom_76 : decode cX11_walksFrom 76 = .ok (.aload_n 0, 1) := by decide +kernel
theorem dX11_walksFrom_77 : decode cX11_walksFrom 77 = .ok (.getfield 17, 3) := by decide +kernel
theorem dX11_walksFrom_80 : decode cX11_walksFrom 80 = .ok (.bipush 10, 2) := by decide +kernel
theorem dX11_walksFrom_82 : decode cX11_walksFrom 82 = .ok (.iload_n 1, 1) := by decide +kernel
theorem dX11_walksFrom_83 : decode cX11_walksFrom 83 = .ok (.imul, 1) := by decide +kernel
theorem dX11_walksFrom_84 : decode cX11_walksFrom 84 = .ok (.bipush 9, 2) := by decide +kernel
theorem dX11_walksFrom_86 : decode cX11_walksFrom 86 = .ok (.iadd, 1) := by decide +kernel
theorem dX11_walksFrom_87 : decode cX11_walksFrom 87 = .ok (.iload 4, 2) := by decide +kernel
theorem dX11_walksFrom_89 : decode cX11_walksFrom 89 = .ok (.iastore, 1) := by decide +kernel
theorem dX11_walksFrom_90 : decode cX11_walksFrom 90 = .ok (.aload_n 0, 1) := by decide +kernel
theorem dX11_walksFrom_91 : decode cX11_walksFrom 91 = .ok (.iload_n 1, 1) := by decide +kernel
theorem dX11_walksFrom_92 : decode cX11_walksFrom 92 = .ok (.iconst 0, 1) := by decide +kernel
theorem dX11_walksFrom_93 : decode cX11_walksFrom 93 = .ok (.iconst 3, 1) := by decide +kernel
theorem dX11_walksFrom_94 : decode cX11_walksFrom 94 = .ok (.iload_n 2, 1) := by decide +kernel
theorem dX11_walksFrom_95 : decode cX11_walksFrom 95 = .ok (.invokevirtual 246, 3) := by decide +kernel
theorem dX11_walksFrom_98 : decode cX11_walksFrom 98 = .ok (.aload_n 0, 1) := by decide +kernel
theorem dX11_walksFrom_99 : decode cX11_walksFrom 99 = .ok (.getfield 17, 3) := by decide +kernel
theorem dX11_walksFrom_102 : decode cX11_walksFrom 102 = .ok (.bipush 10, 2) := by decide +kernel
theorem dX11_walksFrom_104 : decode cX11_walksFrom 104 = .ok (.iload_n 1, 1) := by decide +kernel
theorem dX11_walksFrom_105 : decode cX11_walksFrom 105 = .ok (.imul, 1) := by decide +kernel
theorem dX11_walksFrom_106 : decode cX11_walksFrom 106 = .ok (.bipush 8, 2) := by decide +kernel
theorem dX11_walksFrom_108 : decode cX11_walksFrom 108 = .ok (.iadd, 1) := by decide +kernel
theorem dX11_walksFrom_109 : decode cX11_walksFrom 109 = .ok (.iload 7, 2) := by decide +kernel
theorem dX11_walksFrom_111 : decode cX11_walksFrom 111 = .ok (.iastore, 1) := by decide +kernel
theorem dX11_walksFrom_112 : decode cX11_walksFrom 112 = .ok (.aload_n 0, 1) := by decide +kernel
theorem dX11_walksFrom_113 : decode cX11_walksFrom 113 = .ok (.getfield 17, 3) := by decide +kernel
theorem dX11_walksFrom_116 : decode cX11_walksFrom 116 = .ok (.bipush 10, 2) := by decide +kernel
theorem dX11_walksFrom_118 : decode cX11_walksFrom 118 = .ok (.iload_n 1, 1) := by decide +kernel
theorem dX11_walksFrom_119 : decode cX11_walksFrom 119 = .ok (.imul, 1) := by decide +kernel
theorem dX11_walksFrom_120 : decode cX11_walksFrom 120 = .ok (.bipush 9, 2) := by decide +kernel
theorem dX11_walksFrom_122 : decode cX11_walksFrom 122 = .ok (.iadd, 1) := by decide +kernel
theorem dX11_walksFrom_123 : decode cX11_walksFrom 123 = .ok (.iload 8, 2) := by decide +kernel
theorem dX11_walksFrom_125 : decode cX11_walksFrom 125 = .ok (.iastore, 1) := by decide +kernel
theorem dX11_walksFrom_126 : decode cX11_walksFrom 126 = .ok (.aload_n 0, 1) := by decide +kernel
theorem dX11_walksFrom_127 : decode cX11_walksFrom 127 = .ok (.iload 5, 2) := by decide +kernel
theorem dX11_walksFrom_129 : decode cX11_walksFrom 129 = .ok (.iload 6, 2) := by decide +kernel
theorem dX11_walksFrom_131 : decode cX11_walksFrom 131 = .ok (.invokevirtual 250, 3) := by decide +kernel
theorem dX11_walksFrom_16 : decode cX11_walksFrom 16 = .ok (.iload_n 3, 1) := by decide +kernel
theorem dX11_walksFrom_17 : decode cX11_walksFrom 17 = .ok (.iload 5, 2) := by decide +kernel
theorem dX11_walksFrom_19 : decode cX11_walksFrom 19 = .ok (.if_icmp .ne 14, 3) := by decide +kernel
theorem dX11_walksFrom_33 : decode cX11_walksFrom 33 = .ok (.lconst 0, 1) := by decide +kernel
theorem dX11_walksFrom_22 : decode cX11_walksFrom 22 = .ok (.iload 4, 2) := by decide +kernel
theorem dX11_walksFrom_24 : decode cX11_walksFrom 24 = .ok (.iload 6, 2) := by decide +kernel
theorem dX11_walksFrom_26 : decode cX11_walksFrom 26 = .ok (.if_icmp .ne 7, 3) := by decide +kernel
theorem dX11_walksFrom_29 : decode cX11_walksFrom 29 = .ok (.lconst 1, 1) := by decide +kernel
theorem dX11_walksFrom_30 : decode cX11_walksFrom 30 = .ok (.goto 4, 3) := by decide +kernel
theorem dX11_walksFrom_10 : decode cX11_walksFrom 10 = .ok (.lconst 0, 1) := by decide +kernel
theorem dX11_walksFrom_134 : decode cX11_walksFrom 134 = .ok (.lreturn, 1) := by decide +kernel
theorem dX11_walksFrom_34 : decode cX11_walksFrom 34 = .ok (.lreturn, 1) := by decide +kernel
theorem dX11_walksFrom_11 : decode cX11_walksFrom 11 = .ok (.lreturn, 1) := by decide +kernel
theorem dX11_walkStep_0 : decode cX11_walkStep 0 = .ok (.lload 5, 2) := by decide +kernel
theorem dX11_walkStep_2 : decode cX11_walkStep 2 = .ok (.lstore 8, 2) := by decide +kernel
theorem dX11_walkStep_4 : decode cX11_walkStep 4 = .ok (.aload_n 0, 1) := by decide +kernel
theorem dX11_walkStep_5 : decode cX11_walkStep 5 = .ok (.iload_n 1, 1) := by decide +kernel
theorem dX11_walkStep_6 : decode cX11_walkStep 6 = .ok (.bipush 8, 2) := by decide +kernel
theorem dX11_walkStep_8 : decode cX11_walkStep 8 = .ok (.invokevirtual 175, 3) := by decide +kernel
theorem dX11_walkStep_11 : decode cX11_walkStep 11 = .ok (.istore 10, 2) := by decide +kernel
theorem dX11_walkStep_13 : decode cX11_walkStep 13 = .ok (.aload_n 0, 1) := by decide +kernel
theorem dX11_walkStep_14 : decode cX11_walkStep 14 = .ok (.iload_n 1, 1) := by decide +kernel
theorem dX11_walkStep_15 : decode cX11_walkStep 15 = .ok (.bipush 9, 2) := by decide +kernel
theorem dX11_walkStep_17 : decode cX11_walkStep 17 = .ok (.invokevirtual 175, 3) := by decide +kernel
theorem dX11_walkStep_20 : decode cX11_walkStep 20 = .ok (.istore 11, 2) := by decide +kernel
theorem dX11_walkStep_22 : decode cX11_walkStep 22 = .ok (.iconst (-1), 1) := by decide +kernel
theorem dX11_walkStep_23 : decode cX11_walkStep 23 = .ok (.istore 12, 2) := by decide +kernel
theorem dX11_walkStep_25 : decode cX11_walkStep 25 = .ok (.iconst 0, 1) := by decide +kernel
theorem dX11_walkStep_26 : decode cX11_walkStep 26 = .ok (.istore 13, 2) := by decide +kernel
theorem dX11_walkStep_28 : decode cX11_walkStep 28 = .ok (.iload 13, 2) := by decide +kernel
theorem dX11_walkStep_30 : decode cX11_walkStep 30 = .ok (.iload 7, 2) := by decide +kernel
theorem dX11_walkStep_32 : decode cX11_walkStep 32 = .ok (.if_icmp .gt 108, 3) := by decide +kernel
theorem dX11_walkStep_140 : decode cX11_walkStep 140 = .ok (.iload 12, 2) := by decide +kernel
theorem dX11_walkStep_35 : decode cX11_walkStep 35 = .ok (.iconst 0, 1) := by decide +kernel
theorem dX11_walkStep_36 : decode cX11_walkStep 36 = .ok (.istore 12, 2) := by decide +kernel
theorem dX11_walkStep_38 : decode cX11_walkStep 38 = .ok (.iload 12, 2) := by decide +kernel
theorem dX11_walkStep_40 : decode cX11_walkStep 40 = .ok (.bipush 8, 2) := by decide +kernel
theorem dX11_walkStep_42 : decode cX11_walkStep 42 = .ok (.if_icmp .ge 72, 3) := by decide +kernel
theorem dX11_walkStep_45 : decode cX11_walkStep 45 = .ok (.aload_n 0, 1) := by decide +kernel
theorem dX11_walkStep_46 : decode cX11_walkStep 46 = .ok (.iload_n 1, 1) := by decide +kernel
theorem dX11_walkStep_47 : decode cX11_walkStep 47 = .ok (.iload 12, 2) := by decide +kernel
theorem dX11_walkStep_49 : decode cX11_walkStep 49 = .ok (.invokevirtual 175, 3) := by decide +kernel
theorem dX11_walkStep_52 : decode cX11_walkStep 52 = .ok (.ifCond .ne 6, 3) := by decide +kernel
theorem dX11_walkStep_58 : decode cX11_walkStep 58 = .ok (.aload_n 0, 1) := by decide +kernel
theorem dX11_walkStep_59 : decode cX11_walkStep 59 = .ok (.iload_n 1, 1) := by decide +kernel
theorem dX11_walkStep_60 : decode cX11_walkStep 60 = .ok (.iload_n 2, 1) := by decide +kernel
theorem dX11_walkStep_61 : decode cX11_walkStep 61 = .ok (.iload 13, 2) := by decide +kernel
theorem dX11_walkStep_63 : decode cX11_walkStep 63 = .ok (.isub, 1) := by decide +kernel
theorem dX11_walkStep_64 : decode cX11_walkStep 64 = .ok (.iconst 1, 1) := by decide +kernel
theorem dX11_walkStep_65 : decode cX11_walkStep 65 = .ok (.isub, 1) := by decide +kernel
theorem dX11_walkStep_66 : decode cX11_walkStep 66 = .ok (.iload 10, 2) := by decide +kernel
theorem dX11_walkStep_68 : decode cX11_walkStep 68 = .ok (.iload 12, 2) := by decide +kernel
theorem dX11_walkStep_70 : decode cX11_walkStep 70 = .ok (.invokestatic 191, 3) := by decide +kernel
theorem dX11_walkStep_73 : decode cX11_walkStep 73 = .ok (.iadd, 1) := by decide +kernel
theorem dX11_walkStep_74 : decode cX11_walkStep 74 = .ok (.iload 11, 2) := by decide +kernel
theorem dX11_walkStep_76 : decode cX11_walkStep 76 = .ok (.iload 12, 2) := by decide +kernel
theorem dX11_walkStep_78 : decode cX11_walkStep 78 = .ok (.invokestatic 194, 3) := by decide +kernel
theorem dX11_walkStep_81 : decode cX11_walkStep 81 = .ok (.iadd, 1) := by decide +kernel
theorem dX11_walkStep_82 : decode cX11_walkStep 82 = .ok (.iload_n 3, 1) := by decide +kernel
theorem dX11_walkStep_83 : decode cX11_walkStep 83 = .ok (.iload 4, 2) := by decide +kernel
theorem dX11_walkStep_85 : decode cX11_walkStep 85 = .ok (.invokevirtual 308, 3) := by decide +kernel
theorem w_1832 : Cond.methodLink "QuarterWalksModel" 308 yX11_walksFrom ∈ wAll := wI8 57 (by decide +kernel) (by decide +kernel)
theorem w_70 : Cond.selects yX11_walksFrom.cls yX11_walksFrom yX11_walksFrom ∈ wAll := wIn 70 (by decide +kernel) (by decide +kernel)
theorem mk_X11_walksFrom : mk yX11_walksFrom 6 := ⟨by decide +kernel, w_110⟩
theorem w_1834 : Cond.instanceMethod yX11_walksFrom ∈ wAll := wI8 59 (by decide +kernel) (by decide +kernel)
theorem w_1835 : Cond.code yX11_walksFrom cX11_walksFrom 9 (some .long) ∈ wAll := wI8 60 (by decide +kernel) (by decide +kernel)
theorem dX11_walkStep_88 : decode cX11_walkStep 88 = .ok (.lstore 14, 2) := by decide +kernel
theorem dX11_walkStep_90 : decode cX11_walkStep 90 = .ok (.lload 8, 2) := by decide +kernel
theorem dX11_walkStep_92 : decode cX11_walkStep 92 = .ok (.lload 14, 2) := by decide +kernel
theorem dX11_walkStep_94 : decode cX11_walkStep 94 = .ok (.lcmp, 1) := by decide +kernel
theorem dX11_walkStep_95 : decode cX11_walkStep 95 = .ok (.ifCond .ge 6, 3) := by decide +kernel
theorem dX11_walkStep_101 : decode cX11_walkStep 101 = .ok (.lload 8, 2) := by decide +kernel
theorem dX11_walkStep_103 : decode cX11_walkStep 103 = .ok (.lload 14, 2) := by decide +kernel
theorem dX11_walkStep_105 : decode cX11_walkStep 105 = .ok (.lsub, 1) := by decide +kernel
theorem dX11_walkStep_106 : decode cX11_walkStep 106 = .ok (.lstore 8, 2) := by decide +kernel
theorem dX11_walkStep_108 : decode cX11_walkStep 108 = .ok (.iinc 12 1, 3) := by decide +kernel
theorem dX11_walkStep_111 : decode cX11_walkStep 111 = .ok (.goto (-73), 3) := by decide +kernel
theorem dX11_walkStep_98 : decode cX11_walkStep 98 = .ok (.goto 16, 3) := by decide +kernel
theorem dX11_walkStep_114 : decode cX11_walkStep 114 = .ok (.iload 10, 2) := by decide +kernel
theorem dX11_walkStep_116 : decode cX11_walkStep 116 = .ok (.iload 12, 2) := by decide +kernel
theorem dX11_walkStep_118 : decode cX11_walkStep 118 = .ok (.invokestatic 191, 3) := by decide +kernel
theorem dX11_walkStep_121 : decode cX11_walkStep 121 = .ok (.iadd, 1) := by decide +kernel
theorem dX11_walkStep_122 : decode cX11_walkStep 122 = .ok (.istore 10, 2) := by decide +kernel
theorem dX11_walkStep_124 : decode cX11_walkStep 124 = .ok (.iload 11, 2) := by decide +kernel
theorem dX11_walkStep_126 : decode cX11_walkStep 126 = .ok (.iload 12, 2) := by decide +kernel
theorem dX11_walkStep_128 : decode cX11_walkStep 128 = .ok (.invokestatic 194, 3) := by decide +kernel
theorem dX11_walkStep_131 : decode cX11_walkStep 131 = .ok (.iadd, 1) := by decide +kernel
theorem dX11_walkStep_132 : decode cX11_walkStep 132 = .ok (.istore 11, 2) := by decide +kernel
theorem dX11_walkStep_134 : decode cX11_walkStep 134 = .ok (.iinc 13 1, 3) := by decide +kernel
theorem dX11_walkStep_137 : decode cX11_walkStep 137 = .ok (.goto (-109), 3) := by decide +kernel
theorem dX11_walkStep_55 : decode cX11_walkStep 55 = .ok (.goto 53, 3) := by decide +kernel
theorem dX11_walkStep_142 : decode cX11_walkStep 142 = .ok (.ireturn, 1) := by decide +kernel
theorem dX11_walk_0 : decode cX11_walk 0 = .ok (.aload_n 0, 1) := by decide +kernel
theorem dX11_walk_1 : decode cX11_walk 1 = .ok (.iconst 0, 1) := by decide +kernel
theorem dX11_walk_2 : decode cX11_walk 2 = .ok (.putfield 75, 3) := by decide +kernel
theorem dX11_walk_5 : decode cX11_walk 5 = .ok (.aload_n 0, 1) := by decide +kernel
theorem dX11_walk_6 : decode cX11_walk 6 = .ok (.iload_n 1, 1) := by decide +kernel
theorem dX11_walk_7 : decode cX11_walk 7 = .ok (.invokevirtual 171, 3) := by decide +kernel
theorem dX11_walk_10 : decode cX11_walk 10 = .ok (.ifCond .eq 25, 3) := by decide +kernel
theorem dX11_walk_35 : decode cX11_walk 35 = .ok (.ldc_w 286, 3) := by decide +kernel
theorem dX11_walk_13 : decode cX11_walk 13 = .ok (.iload_n 2, 1) := by decide +kernel
theorem dX11_walk_14 : decode cX11_walk 14 = .ok (.invokestatic 314, 3) := by decide +kernel
theorem dX11_walk_17 : decode cX11_walk 17 = .ok (.ifCond .eq 18, 3) := by decide +kernel
theorem dX11_walk_20 : decode cX11_walk 20 = .ok (.iload_n 3, 1) := by decide +kernel
theorem dX11_walk_21 : decode cX11_walk 21 = .ok (.iload 4, 2) := by decide +kernel
theorem dX11_walk_23 : decode cX11_walk 23 = .ok (.invokestatic 242, 3) := by decide +kernel
theorem dX11_walk_26 : decode cX11_walk 26 = .ok (.ifCond .ne 9, 3) := by decide +kernel
theorem dX11_walk_29 : decode cX11_walk 29 = .ok (.iload 5, 2) := by decide +kernel
theorem dX11_walk_31 : decode cX11_walk 31 = .ok (.iconst (-1), 1) := by decide +kernel
theorem dX11_walk_32 : decode cX11_walk 32 = .ok (.if_icmp .ge 7, 3) := by decide +kernel
theorem dX11_walk_39 : decode cX11_walk 39 = .ok (.aload_n 0, 1) := by decide +kernel
theorem dX11_walk_40 : decode cX11_walk 40 = .ok (.iload_n 1, 1) := by decide +kernel
theorem dX11_walk_41 : decode cX11_walk 41 = .ok (.iload_n 2, 1) := by decide +kernel
theorem dX11_walk_42 : decode cX11_walk 42 = .ok (.iload_n 3, 1) := by decide +kernel
theorem dX11_walk_43 : decode cX11_walk 43 = .ok (.iload 4, 2) := by decide +kernel
theorem dX11_walk_45 : decode cX11_walk 45 = .ok (.invokevirtual 317, 3) := by decide +kernel
theorem w_1824 : Cond.methodLink "QuarterWalksModel" 317 yX11_walksTo ∈ wAll := wI8 49 (by decide +kernel) (by decide +kernel)
theorem w_68 : Cond.selects yX11_walksTo.cls yX11_walksTo yX11_walksTo ∈ wAll := wIn 68 (by decide +kernel) (by decide +kernel)
theorem mk_X11_walksTo : mk yX11_walksTo 4 := ⟨by decide +kernel, w_110⟩
theorem w_1826 : Cond.instanceMethod yX11_walksTo ∈ wAll := wI8 51 (by decide +kernel) (by decide +kernel)
theorem w_1827 : Cond.code yX11_walksTo cX11_walksTo 5 (some .long) ∈ wAll := wI8 52 (by decide +kernel) (by decide +kernel)
theorem dX11_walk_48 : decode cX11_walk 48 = .ok (.lstore 7, 2) := by decide +kernel
theorem dX11_walk_50 : decode cX11_walk 50 = .ok (.iload 5, 2) := by decide +kernel
theorem dX11_walk_52 : decode cX11_walk 52 = .ok (.iconst (-1), 1) := by decide +kernel
theorem dX11_walk_53 : decode cX11_walk 53 = .ok (.if_icmp .ne 7, 3) := by decide +kernel
theorem dX11_walk_60 : decode cX11_walk 60 = .ok (.iload 5, 2) := by decide +kernel
theorem dX11_walk_62 : decode cX11_walk 62 = .ok (.i2l, 1) := by decide +kernel
theorem dX11_walk_63 : decode cX11_walk 63 = .ok (.lload 7, 2) := by decide +kernel
theorem dX11_walk_65 : decode cX11_walk 65 = .ok (.lcmp, 1) := by decide +kernel
theorem dX11_walk_66 : decode cX11_walk 66 = .ok (.ifCond .ge 17, 3) := by decide +kernel
theorem dX11_walk_83 : decode cX11_walk 83 = .ok (.ldc_w 286, 3) := by decide +kernel
theorem dX11_walk_86 : decode cX11_walk 86 = .ok (.goto 17, 3) := by decide +kernel
theorem dX11_walk_69 : decode cX11_walk 69 = .ok (.iload 6, 2) := by decide +kernel
theorem dX11_walk_71 : decode cX11_walk 71 = .ok (.i2l, 1) := by decide +kernel
theorem dX11_walk_72 : decode cX11_walk 72 = .ok (.lconst 0, 1) := by decide +kernel
theorem dX11_walk_73 : decode cX11_walk 73 = .ok (.iload_n 2, 1) := by decide +kernel
theorem dX11_walk_74 : decode cX11_walk 74 = .ok (.iconst 1, 1) := by decide +kernel
theorem dX11_walk_75 : decode cX11_walk 75 = .ok (.isub, 1) := by decide +kernel
theorem dX11_walk_76 : decode cX11_walk 76 = .ok (.i2l, 1) := by decide +kernel
theorem dX11_walk_77 : decode cX11_walk 77 = .ok (.invokestatic 158, 3) := by decide +kernel
theorem dX11_walk_80 : decode cX11_walk 80 = .ok (.ifCond .ne 9, 3) := by decide +kernel
theorem dX11_walk_89 : decode cX11_walk 89 = .ok (.aload_n 0, 1) := by decide +kernel
theorem dX11_walk_90 : decode cX11_walk 90 = .ok (.iload_n 1, 1) := by decide +kernel
theorem dX11_walk_91 : decode cX11_walk 91 = .ok (.iload_n 2, 1) := by decide +kernel
theorem dX11_walk_92 : decode cX11_walk 92 = .ok (.iload_n 3, 1) := by decide +kernel
theorem dX11_walk_93 : decode cX11_walk 93 = .ok (.iload 4, 2) := by decide +kernel
theorem dX11_walk_95 : decode cX11_walk 95 = .ok (.iload 5, 2) := by decide +kernel
theorem dX11_walk_97 : decode cX11_walk 97 = .ok (.i2l, 1) := by decide +kernel
theorem dX11_walk_98 : decode cX11_walk 98 = .ok (.iload 6, 2) := by decide +kernel
theorem dX11_walk_100 : decode cX11_walk 100 = .ok (.invokevirtual 321, 3) := by decide +kernel
theorem w_1828 : Cond.methodLink "QuarterWalksModel" 321 yX11_walkStep ∈ wAll := wI8 53 (by decide +kernel) (by decide +kernel)
theorem w_69 : Cond.selects yX11_walkStep.cls yX11_walkStep yX11_walkStep ∈ wAll := wIn 69 (by decide +kernel) (by decide +kernel)
theorem mk_X11_walkStep : mk yX11_walkStep 6 := ⟨by decide +kernel, w_110⟩
theorem w_1830 : Cond.instanceMethod yX11_walkStep ∈ wAll := wI8 55 (by decide +kernel) (by decide +kernel)
theorem w_1831 : Cond.code yX11_walkStep cX11_walkStep 16 (some .int) ∈ wAll := wI8 56 (by decide +kernel) (by decide +kernel)
theorem dX11_walk_56 : decode cX11_walk 56 = .ok (.lload 7, 2) := by decide +kernel
theorem dX11_walk_58 : decode cX11_walk 58 = .ok (.l2i, 1) := by decide +kernel
theorem dX11_walk_38 : decode cX11_walk 38 = .ok (.ireturn, 1) := by decide +kernel
theorem dX11_walk_103 : decode cX11_walk 103 = .ok (.ireturn, 1) := by decide +kernel
theorem dX11_walk_59 : decode cX11_walk 59 = .ok (.ireturn, 1) := by decide +kernel
theorem dX11_drawn_0 : decode cX11_drawn 0 = .ok (.aload_n 0, 1) := by decide +kernel
theorem dX11_drawn_1 : decode cX11_drawn 1 = .ok (.iconst 0, 1) := by decide +kernel
theorem dX11_drawn_2 : decode cX11_drawn 2 = .ok (.putfield 75, 3) := by decide +kernel
theorem dX11_drawn_5 : decode cX11_drawn 5 = .ok (.aload_n 0, 1) := by decide +kernel
theorem dX11_drawn_6 : decode cX11_drawn 6 = .ok (.iload_n 1, 1) := by decide +kernel
theorem dX11_drawn_7 : decode cX11_drawn 7 = .ok (.invokevirtual 171, 3) := by decide +kernel
theorem dX11_drawn_10 : decode cX11_drawn 10 = .ok (.ifCond .eq 33, 3) := by decide +kernel
theorem dX11_drawn_43 : decode cX11_drawn 43 = .ok (.ldc_w 286, 3) := by decide +kernel
theorem dX11_drawn_13 : decode cX11_drawn 13 = .ok (.iload_n 2, 1) := by decide +kernel
theorem dX11_drawn_14 : decode cX11_drawn 14 = .ok (.invokestatic 314, 3) := by decide +kernel
theorem dX11_drawn_17 : decode cX11_drawn 17 = .ok (.ifCond .eq 26, 3) := by decide +kernel
theorem dX11_drawn_20 : decode cX11_drawn 20 = .ok (.iload_n 3, 1) := by decide +kernel
theorem dX11_drawn_21 : decode cX11_drawn 21 = .ok (.iload 4, 2) := by decide +kernel
theorem dX11_drawn_23 : decode cX11_drawn 23 = .ok (.invokestatic 242, 3) := by decide +kernel
theorem dX11_drawn_26 : decode cX11_drawn 26 = .ok (.ifCond .ne 17, 3) := by decide +kernel
theorem dX11_drawn_29 : decode cX11_drawn 29 = .ok (.iload 7, 2) := by decide +kernel
theorem dX11_drawn_31 : decode cX11_drawn 31 = .ok (.i2l, 1) := by decide +kernel
theorem dX11_drawn_32 : decode cX11_drawn 32 = .ok (.lconst 0, 1) := by decide +kernel
theorem dX11_drawn_33 : decode cX11_drawn 33 = .ok (.iload_n 2, 1) := by decide +kernel
theorem dX11_drawn_34 : decode cX11_drawn 34 = .ok (.iconst 1, 1) := by decide +kernel
theorem dX11_drawn_35 : decode cX11_drawn 35 = .ok (.isub, 1) := by decide +kernel
theorem dX11_drawn_36 : decode cX11_drawn 36 = .ok (.i2l, 1) := by decide +kernel
theorem dX11_drawn_37 : decode cX11_drawn 37 = .ok (.invokestatic 158, 3) := by decide +kernel
theorem dX11_drawn_40 : decode cX11_drawn 40 = .ok (.ifCond .ne 7, 3) := by decide +kernel
theorem dX11_drawn_47 : decode cX11_drawn 47 = .ok (.aload_n 0, 1) := by decide +kernel
theorem dX11_drawn_48 : decode cX11_drawn 48 = .ok (.iload_n 1, 1) := by decide +kernel
theorem dX11_drawn_49 : decode cX11_drawn 49 = .ok (.iload_n 2, 1) := by decide +kernel
theorem dX11_drawn_50 : decode cX11_drawn 50 = .ok (.iload_n 3, 1) := by decide +kernel
theorem dX11_drawn_51 : decode cX11_drawn 51 = .ok (.iload 4, 2) := by decide +kernel
theorem dX11_drawn_53 : decode cX11_drawn 53 = .ok (.invokevirtual 317, 3) := by decide +kernel
theorem dX11_drawn_56 : decode cX11_drawn 56 = .ok (.lstore 8, 2) := by decide +kernel
theorem dX11_drawn_58 : decode cX11_drawn 58 = .ok (.lload 8, 2) := by decide +kernel
theorem dX11_drawn_60 : decode cX11_drawn 60 = .ok (.lconst 0, 1) := by decide +kernel
theorem dX11_drawn_61 : decode cX11_drawn 61 = .ok (.lcmp, 1) := by decide +kernel
theorem dX11_drawn_62 : decode cX11_drawn 62 = .ok (.ifCond .ne 7, 3) := by decide +kernel
theorem dX11_drawn_69 : decode cX11_drawn 69 = .ok (.lload 5, 2) := by decide +kernel
theorem dX11_drawn_71 : decode cX11_drawn 71 = .ok (.ldc2_w 325, 3) := by decide +kernel
theorem w_1840 : Cond.constantLong "QuarterWalksModel" 325 6364136223846793005 ∈ wAll := wI8 65 (by decide +kernel) (by decide +kernel)
theorem dX11_drawn_74 : decode cX11_drawn 74 = .ok (.lmul, 1) := by decide +kernel
theorem dX11_drawn_75 : decode cX11_drawn 75 = .ok (.ldc2_w 327, 3) := by decide +kernel
theorem w_1841 : Cond.constantLong "QuarterWalksModel" 327 1442695040888963407 ∈ wAll := wI8 66 (by decide +kernel) (by decide +kernel)
theorem dX11_drawn_78 : decode cX11_drawn 78 = .ok (.ladd, 1) := by decide +kernel
theorem dX11_drawn_79 : decode cX11_drawn 79 = .ok (.bipush 33, 2) := by decide +kernel
theorem dX11_drawn_81 : decode cX11_drawn 81 = .ok (.lushr, 1) := by decide +kernel
theorem dX11_drawn_82 : decode cX11_drawn 82 = .ok (.lstore 10, 2) := by decide +kernel
theorem dX11_drawn_84 : decode cX11_drawn 84 = .ok (.aload_n 0, 1) := by decide +kernel
theorem dX11_drawn_85 : decode cX11_drawn 85 = .ok (.iload_n 1, 1) := by decide +kernel
theorem dX11_drawn_86 : decode cX11_drawn 86 = .ok (.iload_n 2, 1) := by decide +kernel
theorem dX11_drawn_87 : decode cX11_drawn 87 = .ok (.iload_n 3, 1) := by decide +kernel
theorem dX11_drawn_88 : decode cX11_drawn 88 = .ok (.iload 4, 2) := by decide +kernel
theorem dX11_drawn_90 : decode cX11_drawn 90 = .ok (.lload 10, 2) := by decide +kernel
theorem dX11_drawn_92 : decode cX11_drawn 92 = .ok (.lload 8, 2) := by decide +kernel
theorem dX11_drawn_94 : decode cX11_drawn 94 = .ok (.lrem, 1) := by decide +kernel
theorem dX11_drawn_95 : decode cX11_drawn 95 = .ok (.iload 7, 2) := by decide +kernel
theorem dX11_drawn_97 : decode cX11_drawn 97 = .ok (.invokevirtual 321, 3) := by decide +kernel
theorem dX11_drawn_65 : decode cX11_drawn 65 = .ok (.ldc_w 286, 3) := by decide +kernel
theorem dX11_drawn_46 : decode cX11_drawn 46 = .ok (.ireturn, 1) := by decide +kernel
theorem dX11_drawn_100 : decode cX11_drawn 100 = .ok (.ireturn, 1) := by decide +kernel
theorem dX11_drawn_68 : decode cX11_drawn 68 = .ok (.ireturn, 1) := by decide +kernel
abbrev rm_s_X11_isIn19 : Room := { frames := 0, cells := 0, slots := 0, locals := 0 }
set_option maxRecDepth 100000 in
set_option maxHeartbeats 4000000 in
theorem s_X11_isIn19 (l : Launch) (D : va_G) (G : Nat → Nat) (b0 : Nat) (τ : Nat → Nat) (f : hM) (t : TI G 19 τ f) (u0 : Int64) (u1 : Int64) (u2 : Int64) : mI l yX11_isIn cX11_isIn 6 (.boolean) rm_s_X11_isIn19 D G b0 f [.long u0, .long u1, .long u2] (fun r f1 => iv r 0 1 ∧ TI G 19 τ f1 ∧ Fr [] τ f f1 ∧ (r.toInt ≠ 0 → u1.toInt ≤ u0.toInt ∧ u0.toInt ≤ u2.toInt)) := by
  refine met2 (own := RX11) (by decide) rfl (Nat.le_of_ble_eq_true rfl) ?_
  intro p e s m args below meth c ls Q hQ C hr hini hl h
  have hl : lv_has ls 6 [(0, .long u0), (2, .long u1), (4, .long u2)] := hl
  obtain ⟨hx, hb, hml, hown, hts, hE0, hlk⟩ := id C
  have o := Fr.rf [] τ f
  refine lv_lload_n hx hb dX11_isIn_0 rfl (lv_at hl 0 rfl) ?_
  refine lv_lload_n hx hb dX11_isIn_1 rfl (lv_at hl 1 rfl) ?_
  refine W.lcmp hx hb dX11_isIn_2 (i_topc (fun z1 ez1 mz1 iz1 => ?_))
  refine lv_if_lt (tgt := 17) hx hb dX11_isIn_3 (by decide) (fun c2 => ?_) (fun c2 => ?_)
  · have c3 : z1.toInt < 0 := Int32.lt_iff_toInt_lt.mp c2
    have i4 : iv z1 (-1) (-1) := iv_Ll c3 iz1 (iv_k (x := 0) (k := 0) rfl) (by decide)
    refine lv_iconst (v := 0) hx hb dX11_isIn_17 (by decide) ?_
    exact u_zret C h hr hQ ⟨by decide, by decide⟩ (⟨⟨by decide, by decide⟩, t, o, (fun h_ => absurd h_ (by decide))⟩) (Nat.le_of_ble_eq_true rfl) (Nat.le_of_ble_eq_true rfl) dX11_isIn_18
  · have c5 : 0 ≤ z1.toInt := Int32.le_iff_toInt_le.mp (iv_nlt c2)
    have i6 : iv z1 0 1 := iv_Er c5 (iv_k (x := 0) (k := 0) rfl) iz1 (by decide)
    refine lv_lload_n hx hb dX11_isIn_6 rfl (lv_at hl 0 rfl) ?_
    refine lv_lload hx hb dX11_isIn_7 (lv_at hl 2 rfl) ?_
    refine W.lcmp hx hb dX11_isIn_9 (i_topc (fun z7 ez7 mz7 iz7 => ?_))
    refine lv_if_gt (tgt := 17) hx hb dX11_isIn_10 (by decide) (fun c8 => ?_) (fun c8 => ?_)
    · have c9 : 0 < z7.toInt := Int32.lt_iff_toInt_lt.mp c8
      have i10 : iv z7 1 1 := iv_Lr c9 (iv_k (x := 0) (k := 0) rfl) iz7 (by decide)
      refine lv_iconst (v := 0) hx hb dX11_isIn_17 (by decide) ?_
      exact u_zret C h hr hQ ⟨by decide, by decide⟩ (⟨⟨by decide, by decide⟩, t, o, (fun h_ => absurd h_ (by decide))⟩) (Nat.le_of_ble_eq_true rfl) (Nat.le_of_ble_eq_true rfl) dX11_isIn_18
    · have c11 : z7.toInt ≤ 0 := Int32.le_iff_toInt_le.mp (iv_nlt c8)
      have i12 : iv z7 (-1) 0 := iv_El c11 iz7 (iv_k (x := 0) (k := 0) rfl) (by decide)
      refine lv_iconst (v := 1) hx hb dX11_isIn_13 (by decide) ?_
      refine lv_goto (tgt := 18) hx hb dX11_isIn_14 (by decide) ?_
      exact u_zret C h hr hQ ⟨by decide, by decide⟩ (⟨⟨by decide, by decide⟩, t, o, (fun _ => ⟨(by omega), (by omega)⟩)⟩) (Nat.le_of_ble_eq_true rfl) (Nat.le_of_ble_eq_true rfl) dX11_isIn_18
abbrev rm_s_X11_dx19 : Room := { frames := 0, cells := 0, slots := 0, locals := 0 }
set_option maxRecDepth 100000 in
set_option maxHeartbeats 4000000 in
theorem s_X11_dx19 (l : Launch) (D : va_G) (G : Nat → Nat) (b0 : Nat) (τ : Nat → Nat) (f : hM) (t : TI G 19 τ f) (u0 : Int32) (hu0 : iv u0 (-2147483648) 2147483647) : mI l yX11_dx cX11_dx 1 (.int) rm_s_X11_dx19 D G b0 f [.int u0] (fun r f1 => iv r (-1) 1 ∧ TI G 19 τ f1 ∧ Fr [] τ f f1) := by
  refine met2 (own := RX11) (by decide) rfl (Nat.le_of_ble_eq_true rfl) ?_
  intro p e s m args below meth c ls Q hQ C hr hini hl h
  have hl : lv_has ls 1 [(0, .int u0)] := hl
  obtain ⟨hx, hb, hml, hown, hts, hE0, hlk⟩ := id C
  have o := Fr.rf [] τ f
  refine lv_iload_n hx hb dX11_dx_0 rfl (lv_at hl 0 rfl) ?_
  refine lv_if_eq (tgt := 9) hx hb dX11_dx_1 (by decide) (fun c1 => ?_) (fun c1 => ?_)
  · have c2 : u0.toInt = 0 := congrArg Int32.toInt c1
    have i3 : iv u0 0 0 := iv_Q c2 hu0 (iv_k (x := 0) (k := 0) rfl) (by decide)
    refine lv_iconst (v := 0) hx hb dX11_dx_9 (by decide) ?_
    refine lv_goto (tgt := 23) hx hb dX11_dx_10 (by decide) ?_
    exact u_iret C h hr hQ (⟨⟨by decide, by decide⟩, t, o⟩) (Nat.le_of_ble_eq_true rfl) (Nat.le_of_ble_eq_true rfl) dX11_dx_23
  · have c4 : u0.toInt ≠ 0 := fun z_ => c1 (Int32.toInt_inj.mp z_)
    refine lv_iload_n hx hb dX11_dx_4 rfl (lv_at hl 0 rfl) ?_
    refine lv_iconst (v := 4) hx hb dX11_dx_5 (by decide) ?_
    refine lv_icmp_ne (tgt := 13) hx hb dX11_dx_6 (by decide) (fun c5 => ?_) (fun c5 => ?_)
    · have c6 : u0.toInt ≠ 4 := fun z_ => c5 (Int32.toInt_inj.mp z_)
      refine lv_iload_n hx hb dX11_dx_13 rfl (lv_at hl 0 rfl) ?_
      refine lv_iconst (v := 4) hx hb dX11_dx_14 (by decide) ?_
      refine lv_icmp_ge (tgt := 22) hx hb dX11_dx_15 (by decide) (fun c9 => ?_) (fun c9 => ?_)
      · have c10 : 4 ≤ u0.toInt := Int32.le_iff_toInt_le.mp c9
        have i11 : iv u0 4 2147483647 := iv_Er c10 (iv_k (x := 4) (k := 4) rfl) hu0 (by decide)
        refine lv_iconst (v := -1) hx hb dX11_dx_22 (by decide) ?_
        exact u_iret C h hr hQ (⟨⟨by decide, by decide⟩, t, o⟩) (Nat.le_of_ble_eq_true rfl) (Nat.le_of_ble_eq_true rfl) dX11_dx_23
      · have c12 : u0.toInt < 4 := Int32.lt_iff_toInt_lt.mp (iv_nle c9)
        have i13 : iv u0 (-2147483648) 3 := iv_Ll c12 hu0 (iv_k (x := 4) (k := 4) rfl) (by decide)
        refine lv_iconst (v := 1) hx hb dX11_dx_18 (by decide) ?_
        refine lv_goto (tgt := 23) hx hb dX11_dx_19 (by decide) ?_
        exact u_iret C h hr hQ (⟨⟨by decide, by decide⟩, t, o⟩) (Nat.le_of_ble_eq_true rfl) (Nat.le_of_ble_eq_true rfl) dX11_dx_23
    · have c7 : u0.toInt = 4 := congrArg Int32.toInt c5
      have i8 : iv u0 4 4 := iv_Q c7 hu0 (iv_k (x := 4) (k := 4) rfl) (by decide)
      refine lv_iconst (v := 0) hx hb dX11_dx_9 (by decide) ?_
      refine lv_goto (tgt := 23) hx hb dX11_dx_10 (by decide) ?_
      exact u_iret C h hr hQ (⟨⟨by decide, by decide⟩, t, o⟩) (Nat.le_of_ble_eq_true rfl) (Nat.le_of_ble_eq_true rfl) dX11_dx_23
abbrev rm_s_X11_dy19 : Room := { frames := 0, cells := 0, slots := 0, locals := 0 }
set_option maxRecDepth 100000 in
set_option maxHeartbeats 4000000 in
theorem s_X11_dy19 (l : Launch) (D : va_G) (G : Nat → Nat) (b0 : Nat) (τ : Nat → Nat) (f : hM) (t : TI G 19 τ f) (u0 : Int32) (hu0 : iv u0 (-2147483648) 2147483647) : mI l yX11_dy cX11_dy 1 (.int) rm_s_X11_dy19 D G b0 f [.int u0] (fun r f1 => iv r (-1) 1 ∧ TI G 19 τ f1 ∧ Fr [] τ f f1) := by
  refine met2 (own := RX11) (by decide) rfl (Nat.le_of_ble_eq_true rfl) ?_
  intro p e s m args below meth c ls Q hQ C hr hini hl h
  have hl : lv_has ls 1 [(0, .int u0)] := hl
  obtain ⟨hx, hb, hml, hown, hts, hE0, hlk⟩ := id C
  have o := Fr.rf [] τ f
  refine lv_iload_n hx hb dX11_dy_0 rfl (lv_at hl 0 rfl) ?_
  refine lv_iconst (v := 2) hx hb dX11_dy_1 (by decide) ?_
  refine lv_icmp_eq (tgt := 11) hx hb dX11_dy_2 (by decide) (fun c1 => ?_) (fun c1 => ?_)
  · have c2 : u0.toInt = 2 := congrArg Int32.toInt c1
    have i3 : iv u0 2 2 := iv_Q c2 hu0 (iv_k (x := 2) (k := 2) rfl) (by decide)
    refine lv_iconst (v := 0) hx hb dX11_dy_11 (by decide) ?_
    refine lv_goto (tgt := 31) hx hb dX11_dy_12 (by decide) ?_
    exact u_iret C h hr hQ (⟨⟨by decide, by decide⟩, t, o⟩) (Nat.le_of_ble_eq_true rfl) (Nat.le_of_ble_eq_true rfl) dX11_dy_31
  · have c4 : u0.toInt ≠ 2 := fun z_ => c1 (Int32.toInt_inj.mp z_)
    refine lv_iload_n hx hb dX11_dy_5 rfl (lv_at hl 0 rfl) ?_
    refine lv_bipush (v := 6) hx hb dX11_dy_6 (by decide) ?_
    refine lv_icmp_ne (tgt := 15) hx hb dX11_dy_8 (by decide) (fun c5 => ?_) (fun c5 => ?_)
    · have c6 : u0.toInt ≠ 6 := fun z_ => c5 (Int32.toInt_inj.mp z_)
      refine lv_iload_n hx hb dX11_dy_15 rfl (lv_at hl 0 rfl) ?_
      refine lv_iconst (v := 2) hx hb dX11_dy_16 (by decide) ?_
      refine lv_icmp_lt (tgt := 26) hx hb dX11_dy_17 (by decide) (fun c9 => ?_) (fun c9 => ?_)
      · have c10 : u0.toInt < 2 := Int32.lt_iff_toInt_lt.mp c9
        have i11 : iv u0 (-2147483648) 1 := iv_Ll c10 hu0 (iv_k (x := 2) (k := 2) rfl) (by decide)
        refine lv_iconst (v := 1) hx hb dX11_dy_26 (by decide) ?_
        refine lv_goto (tgt := 31) hx hb dX11_dy_27 (by decide) ?_
        exact u_iret C h hr hQ (⟨⟨by decide, by decide⟩, t, o⟩) (Nat.le_of_ble_eq_true rfl) (Nat.le_of_ble_eq_true rfl) dX11_dy_31
      · have c12 : 2 ≤ u0.toInt := Int32.le_iff_toInt_le.mp (iv_nlt c9)
        have i13 : iv u0 2 2147483647 := iv_Er c12 (iv_k (x := 2) (k := 2) rfl) hu0 (by decide)
        refine lv_iload_n hx hb dX11_dy_20 rfl (lv_at hl 0 rfl) ?_
        refine lv_bipush (v := 7) hx hb dX11_dy_21 (by decide) ?_
        refine lv_icmp_ne (tgt := 30) hx hb dX11_dy_23 (by decide) (fun c14 => ?_) (fun c14 => ?_)
        · have c15 : u0.toInt ≠ 7 := fun z_ => c14 (Int32.toInt_inj.mp z_)
          refine lv_iconst (v := -1) hx hb dX11_dy_30 (by decide) ?_
          exact u_iret C h hr hQ (⟨⟨by decide, by decide⟩, t, o⟩) (Nat.le_of_ble_eq_true rfl) (Nat.le_of_ble_eq_true rfl) dX11_dy_31
        · have c16 : u0.toInt = 7 := congrArg Int32.toInt c14
          have i17 : iv u0 7 7 := iv_Q c16 i13 (iv_k (x := 7) (k := 7) rfl) (by decide)
          refine lv_iconst (v := 1) hx hb dX11_dy_26 (by decide) ?_
          refine lv_goto (tgt := 31) hx hb dX11_dy_27 (by decide) ?_
          exact u_iret C h hr hQ (⟨⟨by decide, by decide⟩, t, o⟩) (Nat.le_of_ble_eq_true rfl) (Nat.le_of_ble_eq_true rfl) dX11_dy_31
    · have c7 : u0.toInt = 6 := congrArg Int32.toInt c5
      have i8 : iv u0 6 6 := iv_Q c7 hu0 (iv_k (x := 6) (k := 6) rfl) (by decide)
      refine lv_iconst (v := 0) hx hb dX11_dy_11 (by decide) ?_
      refine lv_goto (tgt := 31) hx hb dX11_dy_12 (by decide) ?_
      exact u_iret C h hr hQ (⟨⟨by decide, by decide⟩, t, o⟩) (Nat.le_of_ble_eq_true rfl) (Nat.le_of_ble_eq_true rfl) dX11_dy_31
abbrev rm_s_X11_isSet19 : Room := { frames := 1, cells := 0, slots := 0, locals := 25 }
set_option maxRecDepth 100000 in
set_option maxHeartbeats 4000000 in
theorem s_X11_isSet19 (l : Launch) (D : va_G) (G : Nat → Nat) (b0 : Nat) (τ : Nat → Nat) (f : hM) (t : TI G 19 τ f) (u0 : Nat) (hu0 : τ u0 = 60) (u1 : Int32) (hu1 : iv u1 (-2147483648) 2147483647) : mI l yX11_isSet cX11_isSet 2 (.boolean) rm_s_X11_isSet19 D G b0 f [.ref u0, .int u1] (fun r f1 => iv r 0 1 ∧ TI G 19 τ f1 ∧ Fr [] τ f f1 ∧ (r.toInt ≠ 0 → iv u1 0 7)) := by
  refine met2 (own := RX11) (by decide) rfl (Nat.le_of_ble_eq_true rfl) ?_
  intro p e s m args below meth c ls Q hQ C hr hini hl h
  have hl : lv_has ls 2 [(0, .ref u0), (1, .int u1)] := hl
  obtain ⟨hx, hb, hml, hown, hts, hE0, hlk⟩ := id C
  have o := Fr.rf [] τ f
  refine lv_iload_n hx hb dX11_isSet_0 rfl (lv_at hl 1 rfl) ?_
  refine lv_i2l hx hb dX11_isSet_1 rfl (i_topL hu1 (fun w1 ew1 mw1 iw1 => ?_))
  refine lv_lconst (v := 0) hx hb dX11_isSet_2 (by decide) ?_
  refine lv_aload_n hx hb dX11_isSet_3 rfl (lv_at hl 0 rfl) ?_
  refine t_getr (tq := 63) C h t hu0 (by decide) wf_60 rfl fl_X11_17 dX11_isSet_4 (fun q2 tq2 => ?_)
  refine lv_bipush (v := 80) hx hb dX11_isSet_7 (by decide) ?_
  refine t_bk80 C h t tq2 (by decide) wf_63 dX11_isSet_9 (fun z3 iz3 => ?_)
  refine lv_iconst (v := 1) hx hb dX11_isSet_10 (by decide) ?_
  refine i_subk hx hb dX11_isSet_11 iz3 (k := 1) rfl (lo := (-1)) (hi := 7) (by decide) (fun z4 ez4 mz4 iz4 => ?_)
  refine lv_i2l hx hb dX11_isSet_12 rfl (i_topL iz4 (fun w5 ew5 mw5 iw5 => ?_))
  refine k_i (r_S C h hl (As := [.long w1, .long 0, .long w5]) (rest := []) (s_X11_isIn19 l D G b0 τ f t w1 0 w5) mk_X11_isIn w_1624 w_1625 w_1626 ⟨Nat.le_of_ble_eq_true rfl, Nat.le_of_ble_eq_true rfl⟩ rfl (Nat.le_of_ble_eq_true rfl) ⟨Nat.le_of_ble_eq_true rfl, Nat.le_of_ble_eq_true rfl⟩ rfl dX11_isSet_13) h (fun r6 f7 H locs p8 h => ?_)
  have n9 : (0 : Int64).toInt = 0 := rfl
  obtain ⟨ir6, tf7, ogf7, cnr6⟩ := p8
  have egf7 := Fr.nil2 ogf7
  subst egf7
  exact u_zret C h hr hQ ir6 (⟨ir6, t, o, (by intro h_; have h9_ := cnr6 h_; omega)⟩) (Nat.le_of_ble_eq_true rfl) (Nat.le_of_ble_eq_true rfl) dX11_isSet_16
abbrev rm_s_X11_weightOf19 : Room := { frames := 0, cells := 0, slots := 0, locals := 0 }
set_option maxRecDepth 100000 in
set_option maxHeartbeats 4000000 in
theorem s_X11_weightOf19 (l : Launch) (D : va_G) (G : Nat → Nat) (b0 : Nat) (τ : Nat → Nat) (f : hM) (t : TI G 19 τ f) (u0 : Nat) (hu0 : τ u0 = 60) (u1 : Int32) (hu1 : iv u1 0 7) (u2 : Int32) (hu2 : iv u2 0 9) : mI l yX11_weightOf cX11_weightOf 3 (.int) rm_s_X11_weightOf19 D G b0 f [.ref u0, .int u1, .int u2] (fun r f1 => iv r 0 19 ∧ TI G 19 τ f1 ∧ Fr [] τ f f1) := by
  refine met2 (own := RX11) (by decide) rfl (Nat.le_of_ble_eq_true rfl) ?_
  intro p e s m args below meth c ls Q hQ C hr hini hl h
  have hl : lv_has ls 3 [(0, .ref u0), (1, .int u1), (2, .int u2)] := hl
  obtain ⟨hx, hb, hml, hown, hts, hE0, hlk⟩ := id C
  have o := Fr.rf [] τ f
  refine lv_aload_n hx hb dX11_weightOf_0 rfl (lv_at hl 0 rfl) ?_
  refine t_getr (tq := 63) C h t hu0 (by decide) wf_60 rfl fl_X11_17 dX11_weightOf_1 (fun q1 tq1 => ?_)
  refine lv_bipush (v := 10) hx hb dX11_weightOf_4 (by decide) ?_
  refine lv_iload_n hx hb dX11_weightOf_6 rfl (lv_at hl 1 rfl) ?_
  refine i_cmul hx hb dX11_weightOf_7 (k := 10) rfl hu1 (lo := 0) (hi := 70) (by decide) (fun z2 ez2 mz2 iz2 => ?_)
  refine lv_iload_n hx hb dX11_weightOf_8 rfl (lv_at hl 2 rfl) ?_
  refine i_add hx hb dX11_weightOf_9 iz2 hu2 (lo := 0) (hi := 79) (by decide) (fun z3 ez3 mz3 iz3 => ?_)
  refine t_bk C h t tq1 (by decide) wf_63 iz3 (by decide) dX11_weightOf_10 (fun z4 iz4 => ?_)
  exact u_iret C h hr hQ (⟨iz4, t, o⟩) (Nat.le_of_ble_eq_true rfl) (Nat.le_of_ble_eq_true rfl) dX11_weightOf_11
abbrev rm_s_X11_cell19 : Room := { frames := 0, cells := 0, slots := 0, locals := 0 }
set_option maxRecDepth 100000 in
set_option maxHeartbeats 4000000 in
theorem s_X11_cell19 (l : Launch) (D : va_G) (G : Nat → Nat) (b0 : Nat) (τ : Nat → Nat) (f : hM) (t : TI G 19 τ f) (u0 : Int32) (hu0 : iv u0 (-65) 74) (u1 : Int32) (hu1 : iv u1 (-65) 74) : mI l yX11_cell cX11_cell 2 (.int) rm_s_X11_cell19 D G b0 f [.int u0, .int u1] (fun r f1 => iv r 0 19599 ∧ TI G 19 τ f1 ∧ Fr [] τ f f1 ∧ (r.toInt = (u0.toInt + 65) * 140 + u1.toInt + 65)) := by
  refine met2 (own := RX11) (by decide) rfl (Nat.le_of_ble_eq_true rfl) ?_
  intro p e s m args below meth c ls Q hQ C hr hini hl h
  have hl : lv_has ls 2 [(0, .int u0), (1, .int u1)] := hl
  obtain ⟨hx, hb, hml, hown, hts, hE0, hlk⟩ := id C
  have o := Fr.rf [] τ f
  refine lv_sipush (v := 140) hx hb dX11_cell_0 (by decide) ?_
  refine lv_iload_n hx hb dX11_cell_3 rfl (lv_at hl 0 rfl) ?_
  refine lv_bipush (v := 65) hx hb dX11_cell_4 (by decide) ?_
  refine i_addk hx hb dX11_cell_6 hu0 (k := 65) rfl (lo := 0) (hi := 139) (by decide) (fun z1 ez1 mz1 iz1 => ?_)
  refine i_cmul hx hb dX11_cell_7 (k := 140) rfl iz1 (lo := 0) (hi := 19460) (by decide) (fun z2 ez2 mz2 iz2 => ?_)
  refine lv_iload_n hx hb dX11_cell_8 rfl (lv_at hl 1 rfl) ?_
  refine i_add hx hb dX11_cell_9 iz2 hu1 (lo := (-65)) (hi := 19534) (by decide) (fun z3 ez3 mz3 iz3 => ?_)
  refine lv_bipush (v := 65) hx hb dX11_cell_10 (by decide) ?_
  refine i_addk hx hb dX11_cell_12 iz3 (k := 65) rfl (lo := 0) (hi := 19599) (by decide) (fun z4 ez4 mz4 iz4 => ?_)
  exact u_iret C h hr hQ (⟨iz4, t, o, (by omega)⟩) (Nat.le_of_ble_eq_true rfl) (Nat.le_of_ble_eq_true rfl) dX11_cell_13
abbrev rm_s_X11_isInside19 : Room := { frames := 0, cells := 0, slots := 0, locals := 0 }
set_option maxRecDepth 100000 in
set_option maxHeartbeats 4000000 in
theorem s_X11_isInside19 (l : Launch) (D : va_G) (G : Nat → Nat) (b0 : Nat) (τ : Nat → Nat) (f : hM) (t : TI G 19 τ f) (u0 : Int32) (hu0 : iv u0 (-2147483648) 2147483647) (u1 : Int32) (hu1 : iv u1 (-2147483648) 2147483647) (u2 : Int32) (hu2 : iv u2 (-2147483648) 2147483647) : mI l yX11_isInside cX11_isInside 3 (.boolean) rm_s_X11_isInside19 D G b0 f [.int u0, .int u1, .int u2] (fun r f1 => iv r 0 1 ∧ TI G 19 τ f1 ∧ Fr [] τ f f1 ∧ (r.toInt ≠ 0 → (u0.toInt = 0 → 0 ≤ u1.toInt ∧ 0 ≤ u2.toInt))) := by
  refine met2 (own := RX11) (by decide) rfl (Nat.le_of_ble_eq_true rfl) ?_
  intro p e s m args below meth c ls Q hQ C hr hini hl h
  have hl : lv_has ls 3 [(0, .int u0), (1, .int u1), (2, .int u2)] := hl
  obtain ⟨hx, hb, hml, hown, hts, hE0, hlk⟩ := id C
  have o := Fr.rf [] τ f
  refine lv_iload_n hx hb dX11_isInside_0 rfl (lv_at hl 0 rfl) ?_
  rcases sw_0_3 u0 with c1 | c1 | c1 | c1 | c1
  · refine lv_tableIn (tgt := 32) hx hb dX11_isInside_1 (by rw [c1]; decide) (by rw [c1]; decide) (off := 31) (by rw [c1]; rfl) (by decide) ?_
    have i2 : iv u0 0 0 := by rw [c1]; exact iv_k rfl
    refine lv_iload_n hx hb dX11_isInside_32 rfl (lv_at hl 1 rfl) ?_
    refine lv_if_lt (tgt := 44) hx hb dX11_isInside_33 (by decide) (fun c6 => ?_) (fun c6 => ?_)
    · have c7 : u1.toInt < 0 := Int32.lt_iff_toInt_lt.mp c6
      have i8 : iv u1 (-2147483648) (-1) := iv_Ll c7 hu1 (iv_k (x := 0) (k := 0) rfl) (by decide)
      refine lv_iconst (v := 0) hx hb dX11_isInside_44 (by decide) ?_
      exact u_zret C h hr hQ ⟨by decide, by decide⟩ (⟨⟨by decide, by decide⟩, t, o, (fun h_ => absurd h_ (by decide))⟩) (Nat.le_of_ble_eq_true rfl) (Nat.le_of_ble_eq_true rfl) dX11_isInside_45
    · have c9 : 0 ≤ u1.toInt := Int32.le_iff_toInt_le.mp (iv_nlt c6)
      have i10 : iv u1 0 2147483647 := iv_Er c9 (iv_k (x := 0) (k := 0) rfl) hu1 (by decide)
      refine lv_iload_n hx hb dX11_isInside_36 rfl (lv_at hl 2 rfl) ?_
      refine lv_if_lt (tgt := 44) hx hb dX11_isInside_37 (by decide) (fun c11 => ?_) (fun c11 => ?_)
      · have c12 : u2.toInt < 0 := Int32.lt_iff_toInt_lt.mp c11
        have i13 : iv u2 (-2147483648) (-1) := iv_Ll c12 hu2 (iv_k (x := 0) (k := 0) rfl) (by decide)
        refine lv_iconst (v := 0) hx hb dX11_isInside_44 (by decide) ?_
        exact u_zret C h hr hQ ⟨by decide, by decide⟩ (⟨⟨by decide, by decide⟩, t, o, (fun h_ => absurd h_ (by decide))⟩) (Nat.le_of_ble_eq_true rfl) (Nat.le_of_ble_eq_true rfl) dX11_isInside_45
      · have c14 : 0 ≤ u2.toInt := Int32.le_iff_toInt_le.mp (iv_nlt c11)
        have i15 : iv u2 0 2147483647 := iv_Er c14 (iv_k (x := 0) (k := 0) rfl) hu2 (by decide)
        refine lv_iconst (v := 1) hx hb dX11_isInside_40 (by decide) ?_
        refine lv_goto (tgt := 45) hx hb dX11_isInside_41 (by decide) ?_
        exact u_zret C h hr hQ ⟨by decide, by decide⟩ (⟨⟨by decide, by decide⟩, t, o, (fun _ => (by omega))⟩) (Nat.le_of_ble_eq_true rfl) (Nat.le_of_ble_eq_true rfl) dX11_isInside_45
  · refine lv_tableIn (tgt := 46) hx hb dX11_isInside_1 (by rw [c1]; decide) (by rw [c1]; decide) (off := 45) (by rw [c1]; rfl) (by decide) ?_
    have i3 : iv u0 1 1 := by rw [c1]; exact iv_k rfl
    refine lv_iload_n hx hb dX11_isInside_46 rfl (lv_at hl 2 rfl) ?_
    refine lv_if_lt (tgt := 54) hx hb dX11_isInside_47 (by decide) (fun c16 => ?_) (fun c16 => ?_)
    · have c17 : u2.toInt < 0 := Int32.lt_iff_toInt_lt.mp c16
      have i18 : iv u2 (-2147483648) (-1) := iv_Ll c17 hu2 (iv_k (x := 0) (k := 0) rfl) (by decide)
      refine lv_iconst (v := 0) hx hb dX11_isInside_54 (by decide) ?_
      exact u_zret C h hr hQ ⟨by decide, by decide⟩ (⟨⟨by decide, by decide⟩, t, o, (fun h_ => absurd h_ (by decide))⟩) (Nat.le_of_ble_eq_true rfl) (Nat.le_of_ble_eq_true rfl) dX11_isInside_55
    · have c19 : 0 ≤ u2.toInt := Int32.le_iff_toInt_le.mp (iv_nlt c16)
      have i20 : iv u2 0 2147483647 := iv_Er c19 (iv_k (x := 0) (k := 0) rfl) hu2 (by decide)
      refine lv_iconst (v := 1) hx hb dX11_isInside_50 (by decide) ?_
      refine lv_goto (tgt := 55) hx hb dX11_isInside_51 (by decide) ?_
      exact u_zret C h hr hQ ⟨by decide, by decide⟩ (⟨⟨by decide, by decide⟩, t, o, (fun _ => (by omega))⟩) (Nat.le_of_ble_eq_true rfl) (Nat.le_of_ble_eq_true rfl) dX11_isInside_55
  · refine lv_tableIn (tgt := 66) hx hb dX11_isInside_1 (by rw [c1]; decide) (by rw [c1]; decide) (off := 65) (by rw [c1]; rfl) (by decide) ?_
    have i4 : iv u0 2 2 := by rw [c1]; exact iv_k rfl
    refine lv_iconst (v := 1) hx hb dX11_isInside_66 (by decide) ?_
    exact u_zret C h hr hQ ⟨by decide, by decide⟩ (⟨⟨by decide, by decide⟩, t, o, (fun _ => (by omega))⟩) (Nat.le_of_ble_eq_true rfl) (Nat.le_of_ble_eq_true rfl) dX11_isInside_67
  · refine lv_tableIn (tgt := 56) hx hb dX11_isInside_1 (by rw [c1]; decide) (by rw [c1]; decide) (off := 55) (by rw [c1]; rfl) (by decide) ?_
    have i5 : iv u0 3 3 := by rw [c1]; exact iv_k rfl
    refine lv_iload_n hx hb dX11_isInside_56 rfl (lv_at hl 1 rfl) ?_
    refine lv_if_lt (tgt := 64) hx hb dX11_isInside_57 (by decide) (fun c21 => ?_) (fun c21 => ?_)
    · have c22 : u1.toInt < 0 := Int32.lt_iff_toInt_lt.mp c21
      have i23 : iv u1 (-2147483648) (-1) := iv_Ll c22 hu1 (iv_k (x := 0) (k := 0) rfl) (by decide)
      refine lv_iconst (v := 0) hx hb dX11_isInside_64 (by decide) ?_
      exact u_zret C h hr hQ ⟨by decide, by decide⟩ (⟨⟨by decide, by decide⟩, t, o, (fun h_ => absurd h_ (by decide))⟩) (Nat.le_of_ble_eq_true rfl) (Nat.le_of_ble_eq_true rfl) dX11_isInside_65
    · have c24 : 0 ≤ u1.toInt := Int32.le_iff_toInt_le.mp (iv_nlt c21)
      have i25 : iv u1 0 2147483647 := iv_Er c24 (iv_k (x := 0) (k := 0) rfl) hu1 (by decide)
      refine lv_iconst (v := 1) hx hb dX11_isInside_60 (by decide) ?_
      refine lv_goto (tgt := 65) hx hb dX11_isInside_61 (by decide) ?_
      exact u_zret C h hr hQ ⟨by decide, by decide⟩ (⟨⟨by decide, by decide⟩, t, o, (fun _ => (by omega))⟩) (Nat.le_of_ble_eq_true rfl) (Nat.le_of_ble_eq_true rfl) dX11_isInside_65
  · refine lv_tableOut (tgt := 66) hx hb dX11_isInside_1 c1 (by decide) ?_
    refine lv_iconst (v := 1) hx hb dX11_isInside_66 (by decide) ?_
    exact u_zret C h hr hQ ⟨by decide, by decide⟩ (⟨⟨by decide, by decide⟩, t, o, (fun _ => (by omega))⟩) (Nat.le_of_ble_eq_true rfl) (Nat.le_of_ble_eq_true rfl) dX11_isInside_67
abbrev rm_s_X11_begins19 : Room := { frames := 1, cells := 0, slots := 0, locals := 22 }
set_option maxRecDepth 100000 in
set_option maxHeartbeats 4000000 in
theorem s_X11_begins19 (l : Launch) (D : va_G) (G : Nat → Nat) (b0 : Nat) (τ : Nat → Nat) (f : hM) (t : TI G 19 τ f) (u0 : Nat) (hu0 : τ u0 = 60) (u1 : Int32) (hu1 : iv u1 0 7) : mV l yX11_begins cX11_begins 3 rm_s_X11_begins19 D G b0 f [.ref u0, .int u1] (fun f1 => TI G 19 τ f1 ∧ Fr [60, 67, 60015] τ f f1 ∧ (∃ gg : Int32, atp f1 u0 (fd 14 (.int gg)) ∧ iv gg 0 0 ∧ gg.toInt = 0)) := by
  refine met2 (own := RX11) (by decide) rfl (Nat.le_of_ble_eq_true rfl) ?_
  intro p e s m args below meth c ls Q hQ C hr hini hl h
  have hl : lv_has ls 3 [(0, .ref u0), (1, .int u1)] := hl
  obtain ⟨hx, hb, hml, hown, hts, hE0, hlk⟩ := id C
  have o := Fr.rf [60, 67, 60015] τ f
  have L2 : ∀ (n2 : Nat) (ls : Array Slot) (f_2 : hM) (H : Heap) (locs : List Loc) (v2_2 : Int32), 19600 - v2_2.toInt < (n2 : Int) → lv_has ls 3 [(0, .ref u0), (1, .int u1), (2, .int v2_2)] → hw D b0 s.heap f_2 H locs → TI G 19 τ f_2 → Fr [60, 67, 60015] τ f f_2 → iv v2_2 0 19600 → W p l e rm_s_X11_begins19 s m args below meth c H locs 0 0 Q (F0 m 2 ls []) := by
    intro n2
    induction n2 with
    | zero => intro ls f_2 H locs v2_2 hm2 hl h t_2 o_2 iv2_2; exact absurd hm2 (by omega)
    | succ n2 ih2 =>
      intro ls f_2 H locs v2_2 hm2 hl h t_2 o_2 iv2_2
      refine lv_iload_n hx hb dX11_begins_2 rfl (lv_at hl 2 rfl) ?_
      refine lv_sipush (v := 19600) hx hb dX11_begins_3 (by decide) ?_
      refine lv_icmp_ge (tgt := 22) hx hb dX11_begins_6 (by decide) (fun c1 => ?_) (fun c1 => ?_)
      · have c2 : 19600 ≤ v2_2.toInt := Int32.le_iff_toInt_le.mp c1
        have i3 : iv v2_2 19600 19600 := iv_Er c2 (iv_k (x := 19600) (k := 19600) rfl) iv2_2 (by decide)
        refine lv_aload_n hx hb dX11_begins_22 rfl (lv_at hl 0 rfl) ?_
        refine t_getr (tq := 67) C h t_2 hu0 (by decide) wf_60 rfl fl_X11_29 dX11_begins_23 (fun q6 tq6 => ?_)
        refine lv_aload_n hx hb dX11_begins_26 rfl (lv_at hl 0 rfl) ?_
        refine lv_iload_n hx hb dX11_begins_27 rfl (lv_at hl 1 rfl) ?_
        refine lv_bipush (v := 8) hx hb dX11_begins_28 (by decide) ?_
        obtain ⟨_, r7⟩ := t_rec t_2 hu0 (by decide) wf_60
        refine k_i (r_V C h hl (As := [.int u1, .int 8]) (rest := [.ref q6]) (s_X11_weightOf19 l D G b0 τ f_2 t_2 u0 hu0 u1 hu1 8 (iv_w (iv_k (x := 8) (k := 8) rfl) (by decide))) r7 (Cn := RX11) (T := TX11) (N := 32) rfl rfl mk_X11_weightOf w_1631 w_1633 w_52 w_1634 ⟨Nat.le_of_ble_eq_true rfl, Nat.le_of_ble_eq_true rfl⟩ rfl (Nat.le_of_ble_eq_true rfl) ⟨Nat.le_of_ble_eq_true rfl, Nat.le_of_ble_eq_true rfl⟩ rfl dX11_begins_30) h (fun r8 f9 H locs p10 h => ?_)
        obtain ⟨ir8, tf9, ogf9⟩ := p10
        have egf9 := Fr.nil2 ogf9
        subst egf9
        refine lv_aload_n hx hb dX11_begins_33 rfl (lv_at hl 0 rfl) ?_
        refine lv_iload_n hx hb dX11_begins_34 rfl (lv_at hl 1 rfl) ?_
        refine lv_bipush (v := 9) hx hb dX11_begins_35 (by decide) ?_
        obtain ⟨_, r11⟩ := t_rec t_2 hu0 (by decide) wf_60
        refine k_i (r_V C h hl (As := [.int u1, .int 9]) (rest := [.int r8, .ref q6]) (s_X11_weightOf19 l D G b0 τ f_2 t_2 u0 hu0 u1 hu1 9 (iv_w (iv_k (x := 9) (k := 9) rfl) (by decide))) r11 (Cn := RX11) (T := TX11) (N := 32) rfl rfl mk_X11_weightOf w_1631 w_1633 w_52 w_1634 ⟨Nat.le_of_ble_eq_true rfl, Nat.le_of_ble_eq_true rfl⟩ rfl (Nat.le_of_ble_eq_true rfl) ⟨Nat.le_of_ble_eq_true rfl, Nat.le_of_ble_eq_true rfl⟩ rfl dX11_begins_37) h (fun r12 f13 H locs p14 h => ?_)
        obtain ⟨ir12, tf13, ogf13⟩ := p14
        have egf13 := Fr.nil2 ogf13
        subst egf13
        refine k_i (r_S C h hl (As := [.int r8, .int r12]) (rest := [.ref q6]) (s_X11_cell19 l D G b0 τ f_2 t_2 r8 (iv_w ir8 (by decide)) r12 (iv_w ir12 (by decide))) mk_X11_cell w_1706 w_1707 w_1708 ⟨Nat.le_of_ble_eq_true rfl, Nat.le_of_ble_eq_true rfl⟩ rfl (Nat.le_of_ble_eq_true rfl) ⟨Nat.le_of_ble_eq_true rfl, Nat.le_of_ble_eq_true rfl⟩ rfl dX11_begins_40) h (fun r15 f16 H locs p17 h => ?_)
        obtain ⟨ir15, tf16, ogf16, x0r15⟩ := p17
        have egf16 := Fr.nil2 ogf16
        subst egf16
        refine lv_lconst (v := 1) hx hb dX11_begins_43 (by decide) ?_
        refine t_last C h t_2 o_2 tq6 (by decide) (by decide) wf_67 fw_67 (iv_in ir15 (by decide)) dX11_begins_44 (fun f18 H locs h tf18 of18 hq => ?_)
        refine lv_aload_n hx hb dX11_begins_45 rfl (lv_at hl 0 rfl) ?_
        refine lv_iconst (v := 0) hx hb dX11_begins_46 (by decide) ?_
        refine t_put C h tf18 of18 hu0 (by decide) (by decide) (by decide) wf_60 fw_60 (k := 14) rfl flw_X11_209 (Or.inr ⟨_, _, _, rfl, rfl⟩) (v := .int 0) rfl rfl ⟨_, rfl, ⟨by decide, by decide⟩⟩ dX11_begins_47 (fun f19 H locs h tf19 of19 hq ha_ hn_ hk_ => ?_)
        have k20 := ha_
        exact u_vret C h hr hQ (⟨tf19, of19, ⟨0, k20, ⟨by decide, by decide⟩, (by decide)⟩⟩) (Nat.le_of_ble_eq_true rfl) (Nat.le_of_ble_eq_true rfl) dX11_begins_50
      · have c4 : v2_2.toInt < 19600 := Int32.lt_iff_toInt_lt.mp (iv_nle c1)
        have i5 : iv v2_2 0 19599 := iv_Ll c4 iv2_2 (iv_k (x := 19600) (k := 19600) rfl) (by decide)
        refine lv_aload_n hx hb dX11_begins_9 rfl (lv_at hl 0 rfl) ?_
        refine t_getr (tq := 67) C h t_2 hu0 (by decide) wf_60 rfl fl_X11_29 dX11_begins_10 (fun q21 tq21 => ?_)
        refine lv_iload_n hx hb dX11_begins_13 rfl (lv_at hl 2 rfl) ?_
        refine lv_lconst (v := 0) hx hb dX11_begins_14 (by decide) ?_
        refine t_last C h t_2 o_2 tq21 (by decide) (by decide) wf_67 fw_67 (iv_in i5 (by decide)) dX11_begins_15 (fun f22 H locs h tf22 of22 hq => ?_)
        refine i_inc hx hb dX11_begins_16 hl (k := 2) rfl i5 rfl (lo := 1) (hi := 19600) (by decide) (by decide) (lv' := fun v => [(2, .int v), (0, .ref u0), (1, .int u1)]) (fun _ => rfl) (fun z23 ls ez23 mz23 iz23 hl => ?_)
        refine lv_goto (tgt := 2) hx hb dX11_begins_19 (by decide) ?_
        exact ih2 ls f22 H locs z23 (show 19600 - z23.toInt < _ by omega) (lv_cons hl 1 rfl (lv_cons hl 2 rfl (lv_cons hl 0 rfl (lv_nil hl)))) h tf22 of22 (iv_w iz23 (by decide))
  refine lv_iconst (v := 0) hx hb dX11_begins_0 (by decide) ?_
  refine lv_istore_n (lv' := [(2, .int 0), (0, .ref u0), (1, .int u1)]) hx hb dX11_begins_1 rfl hl (by decide) rfl (fun ls hl => ?_)
  exact L2 19601 ls f s.heap [] 0 (by decide) (lv_cons hl 1 rfl (lv_cons hl 2 rfl (lv_cons hl 0 rfl (lv_nil hl)))) h t o ⟨by decide, by decide⟩
abbrev rm_s_X11_with19 : Room := { frames := 0, cells := 0, slots := 0, locals := 0 }
set_option maxRecDepth 100000 in
set_option maxHeartbeats 4000000 in
theorem s_X11_with19 (l : Launch) (D : va_G) (G : Nat → Nat) (b0 : Nat) (τ : Nat → Nat) (f : hM) (t : TI G 19 τ f) (u0 : Int64) (u1 : Int64) (u2 : Int32) (hu2 : iv u2 (-2147483648) 2147483647) (u3 : Int32) (hu3 : iv u3 (-2147483648) 2147483647) : mL l yX11_with cX11_with 6 rm_s_X11_with19 D G b0 f [.long u0, .long u1, .int u2, .int u3] (fun r f1 => TI G 19 τ f1 ∧ Fr [] τ f f1) := by
  refine met2 (own := RX11) (by decide) rfl (Nat.le_of_ble_eq_true rfl) ?_
  intro p e s m args below meth c ls Q hQ C hr hini hl h
  have hl : lv_has ls 6 [(0, .long u0), (2, .long u1), (4, .int u2), (5, .int u3)] := hl
  obtain ⟨hx, hb, hml, hown, hts, hE0, hlk⟩ := id C
  have o := Fr.rf [] τ f
  refine lv_iload hx hb dX11_with_0 (lv_at hl 3 rfl) ?_
  rcases sw_1_3 u3 with c1 | c1 | c1 | c1
  · refine lv_tableIn (tgt := 28) hx hb dX11_with_2 (by rw [c1]; decide) (by rw [c1]; decide) (off := 26) (by rw [c1]; rfl) (by decide) ?_
    have i2 : iv u3 1 1 := by rw [c1]; exact iv_k rfl
    refine lv_lload_n hx hb dX11_with_28 rfl (lv_at hl 0 rfl) ?_
    refine lv_lload_n hx hb dX11_with_29 rfl (lv_at hl 1 rfl) ?_
    refine lv_iload hx hb dX11_with_30 (lv_at hl 2 rfl) ?_
    refine lv_i2l hx hb dX11_with_32 rfl (i_topL hu2 (fun w5 ew5 mw5 iw5 => ?_))
    refine lv_lmul hx hb dX11_with_33 (lv_topl (fun w6 ew6 => ?_))
    refine lv_ladd hx hb dX11_with_34 (lv_topl (fun w7 ew7 => ?_))
    refine lv_ldc2 (v := 1000003) hx hb hown (hts _ w_1719) dX11_with_35 ?_
    refine lv_lrem hx hb dX11_with_38 (by decide) (i_topl (lrem_iv (k := 1000003) rfl (by decide) (lo := -1000002) (hi := 1000002) (by decide)) (fun w8 ew8 iw8 => ?_))
    exact u_lret C h hr hQ (⟨t, o⟩) (Nat.le_of_ble_eq_true rfl) (Nat.le_of_ble_eq_true rfl) dX11_with_39
  · refine lv_tableIn (tgt := 40) hx hb dX11_with_2 (by rw [c1]; decide) (by rw [c1]; decide) (off := 38) (by rw [c1]; rfl) (by decide) ?_
    have i3 : iv u3 2 2 := by rw [c1]; exact iv_k rfl
    refine lv_lload_n hx hb dX11_with_40 rfl (lv_at hl 0 rfl) ?_
    refine lv_lload_n hx hb dX11_with_41 rfl (lv_at hl 1 rfl) ?_
    refine lv_iload hx hb dX11_with_42 (lv_at hl 2 rfl) ?_
    refine lv_i2l hx hb dX11_with_44 rfl (i_topL hu2 (fun w9 ew9 mw9 iw9 => ?_))
    refine lv_lmul hx hb dX11_with_45 (lv_topl (fun w10 ew10 => ?_))
    refine lv_ladd hx hb dX11_with_46 (lv_topl (fun w11 ew11 => ?_))
    exact u_lret C h hr hQ (⟨t, o⟩) (Nat.le_of_ble_eq_true rfl) (Nat.le_of_ble_eq_true rfl) dX11_with_47
  · refine lv_tableIn (tgt := 48) hx hb dX11_with_2 (by rw [c1]; decide) (by rw [c1]; decide) (off := 46) (by rw [c1]; rfl) (by decide) ?_
    have i4 : iv u3 3 3 := by rw [c1]; exact iv_k rfl
    refine lv_lload_n hx hb dX11_with_48 rfl (lv_at hl 0 rfl) ?_
    refine lv_lload_n hx hb dX11_with_49 rfl (lv_at hl 1 rfl) ?_
    refine lv_ladd hx hb dX11_with_50 (lv_topl (fun w12 ew12 => ?_))
    exact u_lret C h hr hQ (⟨t, o⟩) (Nat.le_of_ble_eq_true rfl) (Nat.le_of_ble_eq_true rfl) dX11_with_51
  · refine lv_tableOut (tgt := 52) hx hb dX11_with_2 c1 (by decide) ?_
    refine lv_lconst (v := 1) hx hb dX11_with_52 (by decide) ?_
    exact u_lret C h hr hQ (⟨t, o⟩) (Nat.le_of_ble_eq_true rfl) (Nat.le_of_ble_eq_true rfl) dX11_with_53
abbrev rm_s_X11_goes19 : Room := { frames := 1, cells := 0, slots := 0, locals := 25 }
set_option maxRecDepth 100000 in
set_option maxHeartbeats 4000000 in
theorem s_X11_goes19 (l : Launch) (D : va_G) (G : Nat → Nat) (b0 : Nat) (τ : Nat → Nat) (f : hM) (t : TI G 19 τ f) (u0 : Nat) (hu0 : τ u0 = 60) (u1 : Int32) (hu1 : iv u1 0 7) (u2 : Int32) (hu2 : iv u2 (-2147483648) 2147483647) (u3 : Int32) (hu3 : iv u3 (-2147483648) 2147483647) (gn : Int32) (hgn : iv gn 0 10) (k_u0_14 : atp f u0 (fd 14 (.int gn))) (hNG : NGs τ f u0) : mV l yX11_goes cX11_goes 14 rm_s_X11_goes19 D G b0 f [.ref u0, .int u1, .int u2, .int u3] (fun f1 => TI G 19 τ f1 ∧ Fr [60, 67, 60013, 60014, 60015] τ f f1 ∧ (∃ gg : Int32, atp f1 u0 (fd 14 (.int gg)) ∧ iv gg 1 11 ∧ gg.toInt = gn.toInt + 1) ∧ NGs τ f1 u0) := by
  refine met2 (own := RX11) (by decide) rfl (Nat.le_of_ble_eq_true rfl) ?_
  intro p e s m args below meth c ls Q hQ C hr hini hl h
  have hl : lv_has ls 14 [(0, .ref u0), (1, .int u1), (2, .int u2), (3, .int u3)] := hl
  obtain ⟨hx, hb, hml, hown, hts, hE0, hlk⟩ := id C
  have o := Fr.rf [60, 67, 60013, 60014, 60015] τ f
  obtain ⟨ga, gb, hab, ⟨hga, hgb⟩, k_u0_12, k_u0_13⟩ := hNG
  have L3 : ∀ (n3 : Nat) (ls : Array Slot) (f_3 : hM) (H : Heap) (locs : List Loc) (v3_4 : Int32), 19600 - v3_4.toInt < (n3 : Int) → lv_has ls 14 [(0, .ref u0), (1, .int u1), (2, .int u2), (3, .int u3), (4, .int v3_4)] → hw D b0 s.heap f_3 H locs → TI G 19 τ f_3 → Fr [60, 67, 60013, 60014, 60015] τ f f_3 → iv v3_4 0 19600 → atp f_3 u0 (fd 14 (.int gn)) → atp f_3 u0 (fd 12 (.ref ga)) → atp f_3 u0 (fd 13 (.ref gb)) → W p l e rm_s_X11_goes19 s m args below meth c H locs 0 0 Q (F0 m 3 ls []) := by
    intro n3
    induction n3 with
    | zero => intro ls f_3 H locs v3_4 hm3 hl h t_3 o_3 iv3_4 k3_u0_14 k3_u0_12 k3_u0_13; exact absurd hm3 (by omega)
    | succ n3 ih3 =>
      intro ls f_3 H locs v3_4 hm3 hl h t_3 o_3 iv3_4 k3_u0_14 k3_u0_12 k3_u0_13
      have L52 : ∀ (n52 : Nat) (ls : Array Slot) (f_52 : hM) (H : Heap) (locs : List Loc) (v52_4 : Int32) (v52_5 : Int32) (v52_6 : Int32), 30 - v52_6.toInt < (n52 : Int) → lv_has ls 14 [(0, .ref u0), (1, .int u1), (2, .int u2), (3, .int u3), (4, .int v52_4), (5, .int v52_5), (6, .int v52_6)] → hw D b0 s.heap f_52 H locs → TI G 19 τ f_52 → Fr [60, 67, 60013, 60014, 60015] τ f f_52 → iv v52_4 0 19 → iv v52_5 0 19 → iv v52_6 (-10) 30 → atp f_52 u0 (fd 14 (.int gn)) → atp f_52 u0 (fd 12 (.ref ga)) → atp f_52 u0 (fd 13 (.ref gb)) → W p l e rm_s_X11_goes19 s m args below meth c H locs 0 0 Q (F0 m 52 ls []) := by
        intro n52
        induction n52 with
        | zero => intro ls f_52 H locs v52_4 v52_5 v52_6 hm52 hl h t_52 o_52 iv52_4 iv52_5 iv52_6 k52_u0_14 k52_u0_12 k52_u0_13; exact absurd hm52 (by omega)
        | succ n52 ih52 =>
          intro ls f_52 H locs v52_4 v52_5 v52_6 hm52 hl h t_52 o_52 iv52_4 iv52_5 iv52_6 k52_u0_14 k52_u0_12 k52_u0_13
          have L73 : ∀ (n73 : Nat) (ls : Array Slot) (f_73 : hM) (H : Heap) (locs : List Loc) (v73_7 : Int32), 30 - v73_7.toInt < (n73 : Int) → lv_has ls 14 [(0, .ref u0), (1, .int u1), (2, .int u2), (3, .int u3), (4, .int v52_4), (5, .int v52_5), (6, .int v52_6), (7, .int v73_7)] → hw D b0 s.heap f_73 H locs → TI G 19 τ f_73 → Fr [60, 67, 60013, 60014, 60015] τ f f_73 → iv v52_6 (-10) 29 → iv v73_7 (-10) 30 → atp f_73 u0 (fd 14 (.int gn)) → atp f_73 u0 (fd 12 (.ref ga)) → atp f_73 u0 (fd 13 (.ref gb)) → W p l e rm_s_X11_goes19 s m args below meth c H locs 0 0 Q (F0 m 73 ls []) := by
            intro n73
            induction n73 with
            | zero => intro ls f_73 H locs v73_7 hm73 hl h t_73 o_73 jv73_6 iv73_7 k73_u0_14 k73_u0_12 k73_u0_13; exact absurd hm73 (by omega)
            | succ n73 ih73 =>
              intro ls f_73 H locs v73_7 hm73 hl h t_73 o_73 jv73_6 iv73_7 k73_u0_14 k73_u0_12 k73_u0_13
              have L112 : ∀ (n112 : Nat) (ls : Array Slot) (f_112 : hM) (H : Heap) (locs : List Loc) (v112_8 : Int64) (v112_10 : Int32), 8 - v112_10.toInt < (n112 : Int) → lv_has ls 14 [(0, .ref u0), (1, .int u1), (2, .int u2), (3, .int u3), (4, .int v52_4), (5, .int v52_5), (6, .int v52_6), (7, .int v73_7), (8, .long v112_8), (10, .int v112_10)] → hw D b0 s.heap f_112 H locs → TI G 19 τ f_112 → Fr [60, 67, 60013, 60014, 60015] τ f f_112 → iv v73_7 (-10) 29 → iv v112_10 0 8 → atp f_112 u0 (fd 14 (.int gn)) → atp f_112 u0 (fd 12 (.ref ga)) → atp f_112 u0 (fd 13 (.ref gb)) → W p l e rm_s_X11_goes19 s m args below meth c H locs 0 0 Q (F0 m 112 ls []) := by
                intro n112
                induction n112 with
                | zero => intro ls f_112 H locs v112_8 v112_10 hm112 hl h t_112 o_112 jv112_7 iv112_10 k112_u0_14 k112_u0_12 k112_u0_13; exact absurd hm112 (by omega)
                | succ n112 ih112 =>
                  intro ls f_112 H locs v112_8 v112_10 hm112 hl h t_112 o_112 jv112_7 iv112_10 k112_u0_14 k112_u0_12 k112_u0_13
                  refine lv_iload hx hb dX11_goes_112 (lv_at hl 9 rfl) ?_
                  refine lv_bipush (v := 8) hx hb dX11_goes_114 (by decide) ?_
                  refine lv_icmp_ge (tgt := 202) hx hb dX11_goes_116 (by decide) (fun c1 => ?_) (fun c1 => ?_)
                  · have c2 : 8 ≤ v112_10.toInt := Int32.le_iff_toInt_le.mp c1
                    have i3 : iv v112_10 8 8 := iv_Er c2 (iv_k (x := 8) (k := 8) rfl) iv112_10 (by decide)
                    refine i_inc hx hb dX11_goes_202 hl (k := 7) rfl jv112_7 rfl (lo := (-9)) (hi := 30) (by decide) (by decide) (lv' := fun v => [(7, .int v), (0, .ref u0), (1, .int u1), (2, .int u2), (3, .int u3), (4, .int v52_4), (5, .int v52_5), (6, .int v52_6), (8, .long v112_8), (10, .int v112_10)]) (fun _ => rfl) (fun z6 ls ez6 mz6 iz6 hl => ?_)
                    refine lv_goto (tgt := 73) hx hb dX11_goes_205 (by decide) ?_
                    exact ih73 ls f_112 H locs z6 (show 30 - z6.toInt < _ by omega) (lv_cons hl 1 rfl (lv_cons hl 2 rfl (lv_cons hl 3 rfl (lv_cons hl 4 rfl (lv_cons hl 5 rfl (lv_cons hl 6 rfl (lv_cons hl 7 rfl (lv_cons hl 0 rfl (lv_nil hl))))))))) h t_112 o_112 jv73_6 (iv_w iz6 (by decide)) k112_u0_14 k112_u0_12 k112_u0_13
                  · have c4 : v112_10.toInt < 8 := Int32.lt_iff_toInt_lt.mp (iv_nle c1)
                    have i5 : iv v112_10 0 7 := iv_Ll c4 iv112_10 (iv_k (x := 8) (k := 8) rfl) (by decide)
                    refine lv_aload_n hx hb dX11_goes_119 rfl (lv_at hl 0 rfl) ?_
                    refine lv_iload_n hx hb dX11_goes_120 rfl (lv_at hl 1 rfl) ?_
                    refine lv_iload hx hb dX11_goes_121 (lv_at hl 9 rfl) ?_
                    obtain ⟨_, r7⟩ := t_rec t_112 hu0 (by decide) wf_60
                    refine k_i (r_V C h hl (As := [.int u1, .int v112_10]) (rest := []) (s_X11_weightOf19 l D G b0 τ f_112 t_112 u0 hu0 u1 hu1 v112_10 (iv_w i5 (by decide))) r7 (Cn := RX11) (T := TX11) (N := 32) rfl rfl mk_X11_weightOf w_1631 w_1633 w_52 w_1634 ⟨Nat.le_of_ble_eq_true rfl, Nat.le_of_ble_eq_true rfl⟩ rfl (Nat.le_of_ble_eq_true rfl) ⟨Nat.le_of_ble_eq_true rfl, Nat.le_of_ble_eq_true rfl⟩ rfl dX11_goes_123) h (fun r8 f9 H locs p10 h => ?_)
                    obtain ⟨ir8, tf9, ogf9⟩ := p10
                    have egf9 := Fr.nil2 ogf9
                    subst egf9
                    refine lv_istore (lv' := [(11, .int r8), (0, .ref u0), (1, .int u1), (2, .int u2), (3, .int u3), (4, .int v52_4), (5, .int v52_5), (6, .int v52_6), (7, .int v73_7), (8, .long v112_8), (10, .int v112_10)]) hx hb dX11_goes_126 hl (by decide) rfl (fun ls hl => ?_)
                    refine lv_iload hx hb dX11_goes_128 (lv_at hl 7 rfl) ?_
                    refine lv_iload hx hb dX11_goes_130 (lv_at hl 10 rfl) ?_
                    refine k_i (r_S C h hl (As := [.int v112_10]) (rest := [.int v52_6]) (s_X11_dx19 l D G b0 τ f_112 t_112 v112_10 (iv_w i5 (by decide))) mk_X11_dx w_1675 w_1676 w_1677 ⟨Nat.le_of_ble_eq_true rfl, Nat.le_of_ble_eq_true rfl⟩ rfl (Nat.le_of_ble_eq_true rfl) ⟨Nat.le_of_ble_eq_true rfl, Nat.le_of_ble_eq_true rfl⟩ rfl dX11_goes_132) h (fun r11 f12 H locs p13 h => ?_)
                    obtain ⟨ir11, tf12, ogf12⟩ := p13
                    have egf12 := Fr.nil2 ogf12
                    subst egf12
                    refine i_add hx hb dX11_goes_135 jv73_6 ir11 (lo := (-11)) (hi := 30) (by decide) (fun z14 ez14 mz14 iz14 => ?_)
                    refine lv_istore (lv' := [(12, .int z14), (11, .int r8), (0, .ref u0), (1, .int u1), (2, .int u2), (3, .int u3), (4, .int v52_4), (5, .int v52_5), (6, .int v52_6), (7, .int v73_7), (8, .long v112_8), (10, .int v112_10)]) hx hb dX11_goes_136 hl (by decide) rfl (fun ls hl => ?_)
                    refine lv_iload hx hb dX11_goes_138 (lv_at hl 9 rfl) ?_
                    refine lv_iload hx hb dX11_goes_140 (lv_at hl 11 rfl) ?_
                    refine k_i (r_S C h hl (As := [.int v112_10]) (rest := [.int v73_7]) (s_X11_dy19 l D G b0 τ f_112 t_112 v112_10 (iv_w i5 (by decide))) mk_X11_dy w_1678 w_1679 w_1680 ⟨Nat.le_of_ble_eq_true rfl, Nat.le_of_ble_eq_true rfl⟩ rfl (Nat.le_of_ble_eq_true rfl) ⟨Nat.le_of_ble_eq_true rfl, Nat.le_of_ble_eq_true rfl⟩ rfl dX11_goes_142) h (fun r15 f16 H locs p17 h => ?_)
                    obtain ⟨ir15, tf16, ogf16⟩ := p17
                    have egf16 := Fr.nil2 ogf16
                    subst egf16
                    refine i_add hx hb dX11_goes_145 jv112_7 ir15 (lo := (-11)) (hi := 30) (by decide) (fun z18 ez18 mz18 iz18 => ?_)
                    refine lv_istore (lv' := [(13, .int z18), (12, .int z14), (11, .int r8), (0, .ref u0), (1, .int u1), (2, .int u2), (3, .int u3), (4, .int v52_4), (5, .int v52_5), (6, .int v52_6), (7, .int v73_7), (8, .long v112_8), (10, .int v112_10)]) hx hb dX11_goes_146 hl (by decide) rfl (fun ls hl => ?_)
                    refine lv_iload hx hb dX11_goes_148 (lv_at hl 2 rfl) ?_
                    refine lv_if_le (tgt := 196) hx hb dX11_goes_150 (by decide) (fun c19 => ?_) (fun c19 => ?_)
                    · have c20 : r8.toInt ≤ 0 := Int32.le_iff_toInt_le.mp c19
                      have i21 : iv r8 0 0 := iv_El c20 ir8 (iv_k (x := 0) (k := 0) rfl) (by decide)
                      refine i_inc hx hb dX11_goes_196 hl (k := 12) rfl i5 rfl (lo := 1) (hi := 8) (by decide) (by decide) (lv' := fun v => [(10, .int v), (13, .int z18), (12, .int z14), (11, .int r8), (0, .ref u0), (1, .int u1), (2, .int u2), (3, .int u3), (4, .int v52_4), (5, .int v52_5), (6, .int v52_6), (7, .int v73_7), (8, .long v112_8)]) (fun _ => rfl) (fun z24 ls ez24 mz24 iz24 hl => ?_)
                      refine lv_goto (tgt := 112) hx hb dX11_goes_199 (by decide) ?_
                      exact ih112 ls f_112 H locs v112_8 z24 (show 8 - z24.toInt < _ by omega) (lv_cons hl 4 rfl (lv_cons hl 5 rfl (lv_cons hl 6 rfl (lv_cons hl 7 rfl (lv_cons hl 8 rfl (lv_cons hl 9 rfl (lv_cons hl 10 rfl (lv_cons hl 11 rfl (lv_cons hl 12 rfl (lv_cons hl 0 rfl (lv_nil hl))))))))))) h t_112 o_112 jv112_7 (iv_w iz24 (by decide)) k112_u0_14 k112_u0_12 k112_u0_13
                    · have c22 : 0 < r8.toInt := Int32.lt_iff_toInt_lt.mp (iv_nle c19)
                      have i23 : iv r8 1 19 := iv_Lr c22 (iv_k (x := 0) (k := 0) rfl) ir8 (by decide)
                      refine lv_iload_n hx hb dX11_goes_153 rfl (lv_at hl 5 rfl) ?_
                      refine lv_iload hx hb dX11_goes_154 (lv_at hl 1 rfl) ?_
                      refine lv_iload hx hb dX11_goes_156 (lv_at hl 0 rfl) ?_
                      refine k_i (r_S C h hl (As := [.int u2, .int z14, .int z18]) (rest := []) (s_X11_isInside19 l D G b0 τ f_112 t_112 u2 hu2 z14 (iv_w iz14 (by decide)) z18 (iv_w iz18 (by decide))) mk_X11_isInside w_1713 w_1714 w_1715 ⟨Nat.le_of_ble_eq_true rfl, Nat.le_of_ble_eq_true rfl⟩ rfl (Nat.le_of_ble_eq_true rfl) ⟨Nat.le_of_ble_eq_true rfl, Nat.le_of_ble_eq_true rfl⟩ rfl dX11_goes_158) h (fun r25 f26 H locs p27 h => ?_)
                      obtain ⟨ir25, tf26, ogf26, cnr25⟩ := p27
                      have egf26 := Fr.nil2 ogf26
                      subst egf26
                      refine lv_if_eq (tgt := 196) hx hb dX11_goes_161 (by decide) (fun c28 => ?_) (fun c28 => ?_)
                      · have c29 : r25.toInt = 0 := congrArg Int32.toInt c28
                        have i30 : iv r25 0 0 := iv_Q c29 ir25 (iv_k (x := 0) (k := 0) rfl) (by decide)
                        refine i_inc hx hb dX11_goes_196 hl (k := 12) rfl i5 rfl (lo := 1) (hi := 8) (by decide) (by decide) (lv' := fun v => [(10, .int v), (13, .int z18), (12, .int z14), (11, .int r8), (0, .ref u0), (1, .int u1), (2, .int u2), (3, .int u3), (4, .int v52_4), (5, .int v52_5), (6, .int v52_6), (7, .int v73_7), (8, .long v112_8)]) (fun _ => rfl) (fun z34 ls ez34 mz34 iz34 hl => ?_)
                        refine lv_goto (tgt := 112) hx hb dX11_goes_199 (by decide) ?_
                        exact ih112 ls f_112 H locs v112_8 z34 (show 8 - z34.toInt < _ by omega) (lv_cons hl 4 rfl (lv_cons hl 5 rfl (lv_cons hl 6 rfl (lv_cons hl 7 rfl (lv_cons hl 8 rfl (lv_cons hl 9 rfl (lv_cons hl 10 rfl (lv_cons hl 11 rfl (lv_cons hl 12 rfl (lv_cons hl 0 rfl (lv_nil hl))))))))))) h t_112 o_112 jv112_7 (iv_w iz34 (by decide)) k112_u0_14 k112_u0_12 k112_u0_13
                      · have c31 : r25.toInt ≠ 0 := fun z_ => c28 (Int32.toInt_inj.mp z_)
                        have i32 : iv r25 1 1 := iv_Nl c31 ir25 (by decide)
                        have i33 := cnr25 c31
                        refine lv_aload_n hx hb dX11_goes_164 rfl (lv_at hl 3 rfl) ?_
                        refine t_getfd C h t_112 hu0 (by decide) wf_60 (v := .ref gb) k112_u0_13 fl_X11_33 dX11_goes_165 ?_
                        refine lv_iload hx hb dX11_goes_168 (lv_at hl 1 rfl) ?_
                        refine lv_iload hx hb dX11_goes_170 (lv_at hl 0 rfl) ?_
                        refine k_i (r_S C h hl (As := [.int z14, .int z18]) (rest := [.ref gb]) (s_X11_cell19 l D G b0 τ f_112 t_112 z14 (iv_w iz14 (by decide)) z18 (iv_w iz18 (by decide))) mk_X11_cell w_1706 w_1707 w_1708 ⟨Nat.le_of_ble_eq_true rfl, Nat.le_of_ble_eq_true rfl⟩ rfl (Nat.le_of_ble_eq_true rfl) ⟨Nat.le_of_ble_eq_true rfl, Nat.le_of_ble_eq_true rfl⟩ rfl dX11_goes_172) h (fun r35 f36 H locs p37 h => ?_)
                        obtain ⟨ir35, tf36, ogf36, x0r35⟩ := p37
                        have egf36 := Fr.nil2 ogf36
                        subst egf36
                        refine lv_aload_n hx hb dX11_goes_175 rfl (lv_at hl 3 rfl) ?_
                        refine t_getfd C h t_112 hu0 (by decide) wf_60 (v := .ref gb) k112_u0_13 fl_X11_33 dX11_goes_176 ?_
                        refine lv_iload hx hb dX11_goes_179 (lv_at hl 1 rfl) ?_
                        refine lv_iload hx hb dX11_goes_181 (lv_at hl 0 rfl) ?_
                        refine k_i (r_S C h hl (As := [.int z14, .int z18]) (rest := [.ref gb, .int r35, .ref gb]) (s_X11_cell19 l D G b0 τ f_112 t_112 z14 (iv_w iz14 (by decide)) z18 (iv_w iz18 (by decide))) mk_X11_cell w_1706 w_1707 w_1708 ⟨Nat.le_of_ble_eq_true rfl, Nat.le_of_ble_eq_true rfl⟩ rfl (Nat.le_of_ble_eq_true rfl) ⟨Nat.le_of_ble_eq_true rfl, Nat.le_of_ble_eq_true rfl⟩ rfl dX11_goes_183) h (fun r38 f39 H locs p40 h => ?_)
                        obtain ⟨ir38, tf39, ogf39, x0r38⟩ := p40
                        have egf39 := Fr.nil2 ogf39
                        subst egf39
                        refine t_lald C h t_112 hgb (by decide) wf_67 (iv_in ir38 (by decide)) dX11_goes_186 (fun w41 => ?_)
                        refine lv_lload hx hb dX11_goes_187 (lv_at hl 11 rfl) ?_
                        refine lv_iload hx hb dX11_goes_189 (lv_at hl 2 rfl) ?_
                        refine lv_iload_n hx hb dX11_goes_191 rfl (lv_at hl 6 rfl) ?_
                        refine k_l (r_S C h hl (As := [.long w41, .long v112_8, .int r8, .int u3]) (rest := [.int r35, .ref gb]) (s_X11_with19 l D G b0 τ f_112 t_112 w41 v112_8 r8 (iv_w i23 (by decide)) u3 hu3) mk_X11_with w_1716 w_1717 w_1718 ⟨Nat.le_of_ble_eq_true rfl, Nat.le_of_ble_eq_true rfl⟩ rfl (Nat.le_of_ble_eq_true rfl) ⟨Nat.le_of_ble_eq_true rfl, Nat.le_of_ble_eq_true rfl⟩ rfl dX11_goes_192) h (fun r42 f43 H locs p44 h => ?_)
                        obtain ⟨tf43, ogf43⟩ := p44
                        have egf43 := Fr.nil2 ogf43
                        subst egf43
                        refine t_last C h t_112 o_112 hgb (by decide) (by decide) wf_67 fw_67 (iv_in ir35 (by decide)) dX11_goes_195 (fun f45 H locs h tf45 of45 hq => ?_)
                        have k46 := atp.tg k112_u0_14 hq hu0 (by decide)
                        have k47 := atp.tg k112_u0_12 hq hu0 (by decide)
                        have k48 := atp.tg k112_u0_13 hq hu0 (by decide)
                        refine i_inc hx hb dX11_goes_196 hl (k := 12) rfl i5 rfl (lo := 1) (hi := 8) (by decide) (by decide) (lv' := fun v => [(10, .int v), (13, .int z18), (12, .int z14), (11, .int r8), (0, .ref u0), (1, .int u1), (2, .int u2), (3, .int u3), (4, .int v52_4), (5, .int v52_5), (6, .int v52_6), (7, .int v73_7), (8, .long v112_8)]) (fun _ => rfl) (fun z49 ls ez49 mz49 iz49 hl => ?_)
                        refine lv_goto (tgt := 112) hx hb dX11_goes_199 (by decide) ?_
                        exact ih112 ls f45 H locs v112_8 z49 (show 8 - z49.toInt < _ by omega) (lv_cons hl 4 rfl (lv_cons hl 5 rfl (lv_cons hl 6 rfl (lv_cons hl 7 rfl (lv_cons hl 8 rfl (lv_cons hl 9 rfl (lv_cons hl 10 rfl (lv_cons hl 11 rfl (lv_cons hl 12 rfl (lv_cons hl 0 rfl (lv_nil hl))))))))))) h tf45 of45 jv112_7 (iv_w iz49 (by decide)) k46 k47 k48
              refine lv_iload hx hb dX11_goes_73 (lv_at hl 7 rfl) ?_
              refine lv_iload hx hb dX11_goes_75 (lv_at hl 5 rfl) ?_
              refine lv_aload_n hx hb dX11_goes_77 rfl (lv_at hl 0 rfl) ?_
              refine t_getfd C h t_73 hu0 (by decide) wf_60 (v := .int gn) k73_u0_14 fl_X11_209 dX11_goes_78 ?_
              refine i_add hx hb dX11_goes_81 iv52_5 hgn (lo := 0) (hi := 29) (by decide) (fun z50 ez50 mz50 iz50 => ?_)
              refine lv_icmp_gt (tgt := 208) hx hb dX11_goes_82 (by decide) (fun c51 => ?_) (fun c51 => ?_)
              · have c52 : z50.toInt < v73_7.toInt := Int32.lt_iff_toInt_lt.mp c51
                have i53 : iv v73_7 1 30 := iv_Lr c52 iz50 iv73_7 (by decide)
                refine i_inc hx hb dX11_goes_208 hl (k := 6) rfl jv73_6 rfl (lo := (-9)) (hi := 30) (by decide) (by decide) (lv' := fun v => [(6, .int v), (0, .ref u0), (1, .int u1), (2, .int u2), (3, .int u3), (4, .int v52_4), (5, .int v52_5), (7, .int v73_7)]) (fun _ => rfl) (fun z56 ls ez56 mz56 iz56 hl => ?_)
                refine lv_goto (tgt := 52) hx hb dX11_goes_211 (by decide) ?_
                exact ih52 ls f_73 H locs v52_4 v52_5 z56 (show 30 - z56.toInt < _ by omega) (lv_cons hl 1 rfl (lv_cons hl 2 rfl (lv_cons hl 3 rfl (lv_cons hl 4 rfl (lv_cons hl 5 rfl (lv_cons hl 6 rfl (lv_cons hl 0 rfl (lv_nil hl)))))))) h t_73 o_73 iv52_4 iv52_5 (iv_w iz56 (by decide)) k73_u0_14 k73_u0_12 k73_u0_13
              · have c54 : v73_7.toInt ≤ z50.toInt := Int32.le_iff_toInt_le.mp (iv_nlt c51)
                have i55 : iv v73_7 (-10) 29 := iv_El c54 iv73_7 iz50 (by decide)
                refine lv_aload_n hx hb dX11_goes_85 rfl (lv_at hl 0 rfl) ?_
                refine t_getfd C h t_73 hu0 (by decide) wf_60 (v := .ref ga) k73_u0_12 fl_X11_29 dX11_goes_86 ?_
                refine lv_iload hx hb dX11_goes_89 (lv_at hl 6 rfl) ?_
                refine lv_iload hx hb dX11_goes_91 (lv_at hl 7 rfl) ?_
                refine k_i (r_S C h hl (As := [.int v52_6, .int v73_7]) (rest := [.ref ga]) (s_X11_cell19 l D G b0 τ f_73 t_73 v52_6 (iv_w jv73_6 (by decide)) v73_7 (iv_w i55 (by decide))) mk_X11_cell w_1706 w_1707 w_1708 ⟨Nat.le_of_ble_eq_true rfl, Nat.le_of_ble_eq_true rfl⟩ rfl (Nat.le_of_ble_eq_true rfl) ⟨Nat.le_of_ble_eq_true rfl, Nat.le_of_ble_eq_true rfl⟩ rfl dX11_goes_93) h (fun r57 f58 H locs p59 h => ?_)
                obtain ⟨ir57, tf58, ogf58, x0r57⟩ := p59
                have egf58 := Fr.nil2 ogf58
                subst egf58
                refine t_lald C h t_73 hga (by decide) wf_67 (iv_in ir57 (by decide)) dX11_goes_96 (fun w60 => ?_)
                refine lv_lstore (lv' := [(8, .long w60), (0, .ref u0), (1, .int u1), (2, .int u2), (3, .int u3), (4, .int v52_4), (5, .int v52_5), (6, .int v52_6), (7, .int v73_7)]) hx hb dX11_goes_97 hl (by decide) rfl (fun ls hl => ?_)
                refine lv_lload hx hb dX11_goes_99 (lv_at hl 0 rfl) ?_
                refine lv_lconst (v := 0) hx hb dX11_goes_101 (by decide) ?_
                refine W.lcmp hx hb dX11_goes_102 (i_topc (fun z61 ez61 mz61 iz61 => ?_))
                refine lv_if_ne (tgt := 109) hx hb dX11_goes_103 (by decide) (fun c62 => ?_) (fun c62 => ?_)
                · have c63 : z61.toInt ≠ 0 := fun z_ => c62 (Int32.toInt_inj.mp z_)
                  refine lv_iconst (v := 0) hx hb dX11_goes_109 (by decide) ?_
                  refine lv_istore (lv' := [(10, .int 0), (8, .long w60), (0, .ref u0), (1, .int u1), (2, .int u2), (3, .int u3), (4, .int v52_4), (5, .int v52_5), (6, .int v52_6), (7, .int v73_7)]) hx hb dX11_goes_110 hl (by decide) rfl (fun ls hl => ?_)
                  exact L112 9 ls f_73 H locs w60 0 (by decide) (lv_cons hl 2 rfl (lv_cons hl 3 rfl (lv_cons hl 4 rfl (lv_cons hl 5 rfl (lv_cons hl 6 rfl (lv_cons hl 7 rfl (lv_cons hl 8 rfl (lv_cons hl 9 rfl (lv_cons hl 1 rfl (lv_cons hl 0 rfl (lv_nil hl))))))))))) h t_73 o_73 i55 ⟨by decide, by decide⟩ k73_u0_14 k73_u0_12 k73_u0_13
                · have c64 : z61.toInt = 0 := congrArg Int32.toInt c62
                  have i65 : iv z61 0 0 := iv_Q c64 iz61 (iv_k (x := 0) (k := 0) rfl) (by decide)
                  refine lv_goto (tgt := 202) hx hb dX11_goes_106 (by decide) ?_
                  refine i_inc hx hb dX11_goes_202 hl (k := 8) rfl i55 rfl (lo := (-9)) (hi := 30) (by decide) (by decide) (lv' := fun v => [(7, .int v), (8, .long w60), (0, .ref u0), (1, .int u1), (2, .int u2), (3, .int u3), (4, .int v52_4), (5, .int v52_5), (6, .int v52_6)]) (fun _ => rfl) (fun z66 ls ez66 mz66 iz66 hl => ?_)
                  refine lv_goto (tgt := 73) hx hb dX11_goes_205 (by decide) ?_
                  exact ih73 ls f_73 H locs z66 (show 30 - z66.toInt < _ by omega) (lv_cons hl 2 rfl (lv_cons hl 3 rfl (lv_cons hl 4 rfl (lv_cons hl 5 rfl (lv_cons hl 6 rfl (lv_cons hl 7 rfl (lv_cons hl 8 rfl (lv_cons hl 0 rfl (lv_nil hl))))))))) h t_73 o_73 jv73_6 (iv_w iz66 (by decide)) k73_u0_14 k73_u0_12 k73_u0_13
          refine lv_iload hx hb dX11_goes_52 (lv_at hl 6 rfl) ?_
          refine lv_iload hx hb dX11_goes_54 (lv_at hl 4 rfl) ?_
          refine lv_aload_n hx hb dX11_goes_56 rfl (lv_at hl 0 rfl) ?_
          refine t_getfd C h t_52 hu0 (by decide) wf_60 (v := .int gn) k52_u0_14 fl_X11_209 dX11_goes_57 ?_
          refine i_add hx hb dX11_goes_60 iv52_4 hgn (lo := 0) (hi := 29) (by decide) (fun z67 ez67 mz67 iz67 => ?_)
          refine lv_icmp_gt (tgt := 214) hx hb dX11_goes_61 (by decide) (fun c68 => ?_) (fun c68 => ?_)
          · have c69 : z67.toInt < v52_6.toInt := Int32.lt_iff_toInt_lt.mp c68
            have i70 : iv v52_6 1 30 := iv_Lr c69 iz67 iv52_6 (by decide)
            refine lv_aload_n hx hb dX11_goes_214 rfl (lv_at hl 0 rfl) ?_
            refine t_getfd C h t_52 hu0 (by decide) wf_60 (v := .ref ga) k52_u0_12 fl_X11_29 dX11_goes_215 ?_
            refine lv_astore (lv' := [(6, .ref ga), (0, .ref u0), (1, .int u1), (2, .int u2), (3, .int u3), (4, .int v52_4), (5, .int v52_5)]) hx hb dX11_goes_218 hl (by decide) rfl (fun ls hl => ?_)
            refine lv_aload_n hx hb dX11_goes_220 rfl (lv_at hl 1 rfl) ?_
            refine lv_aload_n hx hb dX11_goes_221 rfl (lv_at hl 1 rfl) ?_
            refine t_getfd C h t_52 hu0 (by decide) wf_60 (v := .ref gb) k52_u0_13 fl_X11_33 dX11_goes_222 ?_
            refine t_put C h t_52 o_52 hu0 (by decide) (by decide) (by decide) wf_60 fw_60 (k := 12) rfl flw_X11_29 (Or.inr ⟨_, _, _, rfl, rfl⟩) (v := .ref gb) rfl rfl ⟨_, rfl, hgb⟩ dX11_goes_225 (fun f73 H locs h tf73 of73 hq ha_ hn_ hk_ => ?_)
            have k74 := hk_ 14 _ (by decide) k52_u0_14
            have k76 := hk_ 13 _ (by decide) k52_u0_13
            have k77 := ha_
            refine lv_aload_n hx hb dX11_goes_228 rfl (lv_at hl 1 rfl) ?_
            refine lv_aload hx hb dX11_goes_229 (lv_at hl 0 rfl) ?_
            refine t_put C h tf73 of73 hu0 (by decide) (by decide) (by decide) wf_60 fw_60 (k := 13) rfl flw_X11_33 (Or.inr ⟨_, _, _, rfl, rfl⟩) (v := .ref ga) rfl rfl ⟨_, rfl, hga⟩ dX11_goes_231 (fun f78 H locs h tf78 of78 hq ha_ hn_ hk_ => ?_)
            have k79 := hk_ 14 _ (by decide) k74
            have k81 := hk_ 12 _ (by decide) k77
            have k82 := ha_
            refine lv_aload_n hx hb dX11_goes_234 rfl (lv_at hl 1 rfl) ?_
            refine lv_dup hx hb dX11_goes_235 rfl ?_
            refine t_getfd C h tf78 hu0 (by decide) wf_60 (v := .int gn) k79 fl_X11_209 dX11_goes_236 ?_
            refine lv_iconst (v := 1) hx hb dX11_goes_239 (by decide) ?_
            refine i_addk hx hb dX11_goes_240 hgn (k := 1) rfl (lo := 1) (hi := 11) (by decide) (fun z83 ez83 mz83 iz83 => ?_)
            refine t_put C h tf78 of78 hu0 (by decide) (by decide) (by decide) wf_60 fw_60 (k := 14) rfl flw_X11_209 (Or.inr ⟨_, _, _, rfl, rfl⟩) (v := .int z83) rfl rfl ⟨_, rfl, (iv_w iz83 (by decide))⟩ dX11_goes_241 (fun f84 H locs h tf84 of84 hq ha_ hn_ hk_ => ?_)
            have k86 := hk_ 12 _ (by decide) k81
            have k87 := hk_ 13 _ (by decide) k82
            have k88 := ha_
            exact u_vret C h hr hQ (⟨tf84, of84, ⟨z83, k88, iz83, (by omega)⟩, ⟨gb, ga, hab.symm, ⟨hgb, hga⟩, k86, k87⟩⟩) (Nat.le_of_ble_eq_true rfl) (Nat.le_of_ble_eq_true rfl) dX11_goes_244
          · have c71 : v52_6.toInt ≤ z67.toInt := Int32.le_iff_toInt_le.mp (iv_nlt c68)
            have i72 : iv v52_6 (-10) 29 := iv_El c71 iv52_6 iz67 (by decide)
            refine lv_iload hx hb dX11_goes_64 (lv_at hl 5 rfl) ?_
            refine lv_aload_n hx hb dX11_goes_66 rfl (lv_at hl 0 rfl) ?_
            refine t_getfd C h t_52 hu0 (by decide) wf_60 (v := .int gn) k52_u0_14 fl_X11_209 dX11_goes_67 ?_
            refine i_sub hx hb dX11_goes_70 iv52_5 hgn (lo := (-10)) (hi := 19) (by decide) (fun z89 ez89 mz89 iz89 => ?_)
            refine lv_istore (lv' := [(7, .int z89), (0, .ref u0), (1, .int u1), (2, .int u2), (3, .int u3), (4, .int v52_4), (5, .int v52_5), (6, .int v52_6)]) hx hb dX11_goes_71 hl (by decide) rfl (fun ls hl => ?_)
            exact L73 41 ls f_52 H locs z89 (show 30 - z89.toInt < _ by omega) (lv_cons hl 1 rfl (lv_cons hl 2 rfl (lv_cons hl 3 rfl (lv_cons hl 4 rfl (lv_cons hl 5 rfl (lv_cons hl 6 rfl (lv_cons hl 7 rfl (lv_cons hl 0 rfl (lv_nil hl))))))))) h t_52 o_52 i72 (iv_w iz89 (by decide)) k52_u0_14 k52_u0_12 k52_u0_13
      refine lv_iload hx hb dX11_goes_3 (lv_at hl 4 rfl) ?_
      refine lv_sipush (v := 19600) hx hb dX11_goes_5 (by decide) ?_
      refine lv_icmp_ge (tgt := 25) hx hb dX11_goes_8 (by decide) (fun c90 => ?_) (fun c90 => ?_)
      · have c91 : 19600 ≤ v3_4.toInt := Int32.le_iff_toInt_le.mp c90
        have i92 : iv v3_4 19600 19600 := iv_Er c91 (iv_k (x := 19600) (k := 19600) rfl) iv3_4 (by decide)
        refine lv_aload_n hx hb dX11_goes_25 rfl (lv_at hl 0 rfl) ?_
        refine lv_iload_n hx hb dX11_goes_26 rfl (lv_at hl 1 rfl) ?_
        refine lv_bipush (v := 8) hx hb dX11_goes_27 (by decide) ?_
        obtain ⟨_, r95⟩ := t_rec t_3 hu0 (by decide) wf_60
        refine k_i (r_V C h hl (As := [.int u1, .int 8]) (rest := []) (s_X11_weightOf19 l D G b0 τ f_3 t_3 u0 hu0 u1 hu1 8 (iv_w (iv_k (x := 8) (k := 8) rfl) (by decide))) r95 (Cn := RX11) (T := TX11) (N := 32) rfl rfl mk_X11_weightOf w_1631 w_1633 w_52 w_1634 ⟨Nat.le_of_ble_eq_true rfl, Nat.le_of_ble_eq_true rfl⟩ rfl (Nat.le_of_ble_eq_true rfl) ⟨Nat.le_of_ble_eq_true rfl, Nat.le_of_ble_eq_true rfl⟩ rfl dX11_goes_29) h (fun r96 f97 H locs p98 h => ?_)
        obtain ⟨ir96, tf97, ogf97⟩ := p98
        have egf97 := Fr.nil2 ogf97
        subst egf97
        refine lv_istore (lv' := [(4, .int r96), (0, .ref u0), (1, .int u1), (2, .int u2), (3, .int u3)]) hx hb dX11_goes_32 hl (by decide) rfl (fun ls hl => ?_)
        refine lv_aload_n hx hb dX11_goes_34 rfl (lv_at hl 1 rfl) ?_
        refine lv_iload_n hx hb dX11_goes_35 rfl (lv_at hl 2 rfl) ?_
        refine lv_bipush (v := 9) hx hb dX11_goes_36 (by decide) ?_
        obtain ⟨_, r99⟩ := t_rec t_3 hu0 (by decide) wf_60
        refine k_i (r_V C h hl (As := [.int u1, .int 9]) (rest := []) (s_X11_weightOf19 l D G b0 τ f_3 t_3 u0 hu0 u1 hu1 9 (iv_w (iv_k (x := 9) (k := 9) rfl) (by decide))) r99 (Cn := RX11) (T := TX11) (N := 32) rfl rfl mk_X11_weightOf w_1631 w_1633 w_52 w_1634 ⟨Nat.le_of_ble_eq_true rfl, Nat.le_of_ble_eq_true rfl⟩ rfl (Nat.le_of_ble_eq_true rfl) ⟨Nat.le_of_ble_eq_true rfl, Nat.le_of_ble_eq_true rfl⟩ rfl dX11_goes_38) h (fun r100 f101 H locs p102 h => ?_)
        obtain ⟨ir100, tf101, ogf101⟩ := p102
        have egf101 := Fr.nil2 ogf101
        subst egf101
        refine lv_istore (lv' := [(5, .int r100), (4, .int r96), (0, .ref u0), (1, .int u1), (2, .int u2), (3, .int u3)]) hx hb dX11_goes_41 hl (by decide) rfl (fun ls hl => ?_)
        refine lv_iload hx hb dX11_goes_43 (lv_at hl 1 rfl) ?_
        refine lv_aload_n hx hb dX11_goes_45 rfl (lv_at hl 2 rfl) ?_
        refine t_getfd C h t_3 hu0 (by decide) wf_60 (v := .int gn) k3_u0_14 fl_X11_209 dX11_goes_46 ?_
        refine i_sub hx hb dX11_goes_49 ir96 hgn (lo := (-10)) (hi := 19) (by decide) (fun z103 ez103 mz103 iz103 => ?_)
        refine lv_istore (lv' := [(6, .int z103), (5, .int r100), (4, .int r96), (0, .ref u0), (1, .int u1), (2, .int u2), (3, .int u3)]) hx hb dX11_goes_50 hl (by decide) rfl (fun ls hl => ?_)
        exact L52 41 ls f_3 H locs r96 r100 z103 (show 30 - z103.toInt < _ by omega) (lv_cons hl 3 rfl (lv_cons hl 4 rfl (lv_cons hl 5 rfl (lv_cons hl 6 rfl (lv_cons hl 2 rfl (lv_cons hl 1 rfl (lv_cons hl 0 rfl (lv_nil hl)))))))) h t_3 o_3 ir96 ir100 (iv_w iz103 (by decide)) k3_u0_14 k3_u0_12 k3_u0_13
      · have c93 : v3_4.toInt < 19600 := Int32.lt_iff_toInt_lt.mp (iv_nle c90)
        have i94 : iv v3_4 0 19599 := iv_Ll c93 iv3_4 (iv_k (x := 19600) (k := 19600) rfl) (by decide)
        refine lv_aload_n hx hb dX11_goes_11 rfl (lv_at hl 0 rfl) ?_
        refine t_getfd C h t_3 hu0 (by decide) wf_60 (v := .ref gb) k3_u0_13 fl_X11_33 dX11_goes_12 ?_
        refine lv_iload hx hb dX11_goes_15 (lv_at hl 4 rfl) ?_
        refine lv_lconst (v := 0) hx hb dX11_goes_17 (by decide) ?_
        refine t_last C h t_3 o_3 hgb (by decide) (by decide) wf_67 fw_67 (iv_in i94 (by decide)) dX11_goes_18 (fun f104 H locs h tf104 of104 hq => ?_)
        have k105 := atp.tg k3_u0_14 hq hu0 (by decide)
        have k106 := atp.tg k3_u0_12 hq hu0 (by decide)
        have k107 := atp.tg k3_u0_13 hq hu0 (by decide)
        refine i_inc hx hb dX11_goes_19 hl (k := 4) rfl i94 rfl (lo := 1) (hi := 19600) (by decide) (by decide) (lv' := fun v => [(4, .int v), (0, .ref u0), (1, .int u1), (2, .int u2), (3, .int u3)]) (fun _ => rfl) (fun z108 ls ez108 mz108 iz108 hl => ?_)
        refine lv_goto (tgt := 3) hx hb dX11_goes_22 (by decide) ?_
        exact ih3 ls f104 H locs z108 (show 19600 - z108.toInt < _ by omega) (lv_cons hl 1 rfl (lv_cons hl 2 rfl (lv_cons hl 3 rfl (lv_cons hl 4 rfl (lv_cons hl 0 rfl (lv_nil hl)))))) h tf104 of104 (iv_w iz108 (by decide)) k105 k106 k107
  refine lv_iconst (v := 0) hx hb dX11_goes_0 (by decide) ?_
  refine lv_istore (lv' := [(4, .int 0), (0, .ref u0), (1, .int u1), (2, .int u2), (3, .int u3)]) hx hb dX11_goes_1 hl (by decide) rfl (fun ls hl => ?_)
  exact L3 19601 ls f s.heap [] 0 (by decide) (lv_cons hl 1 rfl (lv_cons hl 2 rfl (lv_cons hl 3 rfl (lv_cons hl 4 rfl (lv_cons hl 0 rfl (lv_nil hl)))))) h t o ⟨by decide, by decide⟩ k_u0_14 k_u0_12 k_u0_13
abbrev rm_s_X11_goesOn19 : Room := { frames := 2, cells := 0, slots := 0, locals := 58 }
set_option maxRecDepth 100000 in
set_option maxHeartbeats 4000000 in
theorem s_X11_goesOn19 (l : Launch) (D : va_G) (G : Nat → Nat) (b0 : Nat) (τ : Nat → Nat) (f : hM) (t : TI G 19 τ f) (u0 : Nat) (hu0 : τ u0 = 60) (u1 : Int32) (hu1 : iv u1 0 7) (u2 : Int32) (hu2 : iv u2 (-2147483648) 2147483647) (u3 : Int32) (hu3 : iv u3 (-2147483648) 2147483647) (u4 : Int32) (hu4 : iv u4 0 10) (hNG : NGs τ f u0) : mV l yX11_goesOn cX11_goesOn 6 rm_s_X11_goesOn19 D G b0 f [.ref u0, .int u1, .int u2, .int u3, .int u4] (fun f1 => TI G 19 τ f1 ∧ Fr [60, 67, 60013, 60014, 60015] τ f f1 ∧ (∃ gg : Int32, atp f1 u0 (fd 14 (.int gg)) ∧ iv gg 0 11 ∧ gg.toInt = u4.toInt) ∧ NGs τ f1 u0) := by
  refine met2 (own := RX11) (by decide) rfl (Nat.le_of_ble_eq_true rfl) ?_
  intro p e s m args below meth c ls Q hQ C hr hini hl h
  have hl : lv_has ls 6 [(0, .ref u0), (1, .int u1), (2, .int u2), (3, .int u3), (4, .int u4)] := hl
  obtain ⟨hx, hb, hml, hown, hts, hE0, hlk⟩ := id C
  have o := Fr.rf [60, 67, 60013, 60014, 60015] τ f
  have L8 : ∀ (n8 : Nat) (ls : Array Slot) (f_8 : hM) (H : Heap) (locs : List Loc) (v8_5 : Int32) (g8_u0_14 : Int32), 10 - v8_5.toInt < (n8 : Int) → lv_has ls 6 [(0, .ref u0), (1, .int u1), (2, .int u2), (3, .int u3), (4, .int u4), (5, .int v8_5)] → hw D b0 s.heap f_8 H locs → TI G 19 τ f_8 → Fr [60, 67, 60013, 60014, 60015] τ f f_8 → iv v8_5 0 10 → iv g8_u0_14 0 11 → NGs τ f_8 u0 → atp f_8 u0 (fd 14 (.int g8_u0_14)) → g8_u0_14.toInt = v8_5.toInt → v8_5.toInt ≤ u4.toInt → W p l e rm_s_X11_goesOn19 s m args below meth c H locs 0 0 Q (F0 m 8 ls []) := by
    intro n8
    induction n8 with
    | zero => intro ls f_8 H locs v8_5 g8_u0_14 hm8 hl h t_8 o_8 iv8_5 ig8_u0_14 k8_u0_NG k8_u0_14 hv8_0 hv8_1; exact absurd hm8 (by omega)
    | succ n8 ih8 =>
      intro ls f_8 H locs v8_5 g8_u0_14 hm8 hl h t_8 o_8 iv8_5 ig8_u0_14 k8_u0_NG k8_u0_14 hv8_0 hv8_1
      refine lv_iload hx hb dX11_goesOn_8 (lv_at hl 5 rfl) ?_
      refine lv_iload hx hb dX11_goesOn_10 (lv_at hl 4 rfl) ?_
      refine lv_icmp_ge (tgt := 28) hx hb dX11_goesOn_12 (by decide) (fun c1 => ?_) (fun c1 => ?_)
      · have c2 : u4.toInt ≤ v8_5.toInt := Int32.le_iff_toInt_le.mp c1
        exact u_vret C h hr hQ (⟨t_8, o_8, ⟨g8_u0_14, k8_u0_14, ig8_u0_14, (by omega)⟩, k8_u0_NG⟩) (Nat.le_of_ble_eq_true rfl) (Nat.le_of_ble_eq_true rfl) dX11_goesOn_28
      · have c3 : v8_5.toInt < u4.toInt := Int32.lt_iff_toInt_lt.mp (iv_nle c1)
        have i4 : iv v8_5 0 9 := iv_Ll c3 iv8_5 hu4 (by decide)
        have i5 : iv u4 1 10 := iv_Lr c3 iv8_5 hu4 (by decide)
        refine lv_aload_n hx hb dX11_goesOn_15 rfl (lv_at hl 0 rfl) ?_
        refine lv_iload_n hx hb dX11_goesOn_16 rfl (lv_at hl 1 rfl) ?_
        refine lv_iload_n hx hb dX11_goesOn_17 rfl (lv_at hl 2 rfl) ?_
        refine lv_iload_n hx hb dX11_goesOn_18 rfl (lv_at hl 3 rfl) ?_
        obtain ⟨_, r6⟩ := t_rec t_8 hu0 (by decide) wf_60
        refine k_v (r_V C h hl (As := [.int u1, .int u2, .int u3]) (rest := []) (s_X11_goes19 l D G b0 τ f_8 t_8 u0 hu0 u1 hu1 u2 hu2 u3 hu3 g8_u0_14 (show iv g8_u0_14 0 10 from by omega) k8_u0_14 k8_u0_NG) r6 (Cn := RX11) (T := TX11) (N := 32) rfl rfl mk_X11_goes w_1709 w_1711 w_59 w_1712 ⟨Nat.le_of_ble_eq_true rfl, Nat.le_of_ble_eq_true rfl⟩ rfl (Nat.le_of_ble_eq_true rfl) ⟨Nat.le_of_ble_eq_true rfl, Nat.le_of_ble_eq_true rfl⟩ rfl dX11_goesOn_19) h (fun f8 H locs p9 h => ?_)
        obtain ⟨tf8, ogf8, ⟨gg_f8, kpu0_14f8, ipu0_14f8, rpu0_14f8⟩, ngf8⟩ := p9
        have of8 : Fr [60, 67, 60013, 60014, 60015] τ f f8 := Fr.tr o_8 ogf8 (by decide) (by decide)
        refine i_inc hx hb dX11_goesOn_22 hl (k := 5) rfl i4 rfl (lo := 1) (hi := 10) (by decide) (by decide) (lv' := fun v => [(5, .int v), (0, .ref u0), (1, .int u1), (2, .int u2), (3, .int u3), (4, .int u4)]) (fun _ => rfl) (fun z10 ls ez10 mz10 iz10 hl => ?_)
        refine lv_goto (tgt := 8) hx hb dX11_goesOn_25 (by decide) ?_
        exact ih8 ls f8 H locs z10 gg_f8 (show 10 - z10.toInt < _ by omega) (lv_cons hl 1 rfl (lv_cons hl 2 rfl (lv_cons hl 3 rfl (lv_cons hl 4 rfl (lv_cons hl 5 rfl (lv_cons hl 0 rfl (lv_nil hl))))))) h tf8 of8 (iv_w iz10 (by decide)) (iv_w ipu0_14f8 (by decide)) ngf8 kpu0_14f8 (show gg_f8.toInt = z10.toInt by omega) (show z10.toInt ≤ u4.toInt by omega)
  refine lv_aload_n hx hb dX11_goesOn_0 rfl (lv_at hl 0 rfl) ?_
  refine lv_iload_n hx hb dX11_goesOn_1 rfl (lv_at hl 1 rfl) ?_
  obtain ⟨_, r11⟩ := t_rec t hu0 (by decide) wf_60
  refine k_v (r_V C h hl (As := [.int u1]) (rest := []) (s_X11_begins19 l D G b0 τ f t u0 hu0 u1 hu1) r11 (Cn := RX11) (T := TX11) (N := 32) rfl rfl mk_X11_begins w_1702 w_1704 w_58 w_1705 ⟨Nat.le_of_ble_eq_true rfl, Nat.le_of_ble_eq_true rfl⟩ rfl (Nat.le_of_ble_eq_true rfl) ⟨Nat.le_of_ble_eq_true rfl, Nat.le_of_ble_eq_true rfl⟩ rfl dX11_goesOn_2) h (fun f13 H locs p14 h => ?_)
  obtain ⟨tf13, ogf13, ⟨gg_f13, kpu0_14f13, ipu0_14f13, rpu0_14f13⟩⟩ := p14
  have of13 : Fr [60, 67, 60013, 60014, 60015] τ f f13 := Fr.tr o ogf13 (by decide) (by decide)
  have k15 := NGs.fr hNG ogf13 hu0 (by decide)
  refine lv_iconst (v := 0) hx hb dX11_goesOn_5 (by decide) ?_
  refine lv_istore (lv' := [(5, .int 0), (0, .ref u0), (1, .int u1), (2, .int u2), (3, .int u3), (4, .int u4)]) hx hb dX11_goesOn_6 hl (by decide) rfl (fun ls hl => ?_)
  exact L8 11 ls f13 H locs 0 gg_f13 (by decide) (lv_cons hl 1 rfl (lv_cons hl 2 rfl (lv_cons hl 3 rfl (lv_cons hl 4 rfl (lv_cons hl 5 rfl (lv_cons hl 0 rfl (lv_nil hl))))))) h tf13 of13 ⟨by decide, by decide⟩ (iv_w ipu0_14f13 (by decide)) k15 kpu0_14f13 (show gg_f13.toInt = 0 by omega) (show 0 ≤ u4.toInt by omega)
abbrev rm_s_X11_gridAt19 : Room := { frames := 1, cells := 0, slots := 0, locals := 25 }
set_option maxRecDepth 100000 in
set_option maxHeartbeats 4000000 in
theorem s_X11_gridAt19 (l : Launch) (D : va_G) (G : Nat → Nat) (b0 : Nat) (τ : Nat → Nat) (f : hM) (t : TI G 19 τ f) (u0 : Nat) (hu0 : τ u0 = 60) (u1 : Int32) (hu1 : iv u1 (-2147483648) 2147483647) (u2 : Int32) (hu2 : iv u2 (-2147483648) 2147483647) : mL l yX11_gridAt cX11_gridAt 3 rm_s_X11_gridAt19 D G b0 f [.ref u0, .int u1, .int u2] (fun r f1 => TI G 19 τ f1 ∧ Fr [] τ f f1) := by
  refine met2 (own := RX11) (by decide) rfl (Nat.le_of_ble_eq_true rfl) ?_
  intro p e s m args below meth c ls Q hQ C hr hini hl h
  have hl : lv_has ls 3 [(0, .ref u0), (1, .int u1), (2, .int u2)] := hl
  obtain ⟨hx, hb, hml, hown, hts, hE0, hlk⟩ := id C
  have o := Fr.rf [] τ f
  refine lv_iload_n hx hb dX11_gridAt_0 rfl (lv_at hl 1 rfl) ?_
  refine lv_i2l hx hb dX11_gridAt_1 rfl (i_topL hu1 (fun w1 ew1 mw1 iw1 => ?_))
  refine lv_ldc2 (v := -65) hx hb hown (hts _ w_1724) dX11_gridAt_2 ?_
  refine lv_ldc2 (v := 74) hx hb hown (hts _ w_1725) dX11_gridAt_5 ?_
  refine k_i (r_S C h hl (As := [.long w1, .long (-65), .long 74]) (rest := []) (s_X11_isIn19 l D G b0 τ f t w1 (-65) 74) mk_X11_isIn w_1624 w_1625 w_1626 ⟨Nat.le_of_ble_eq_true rfl, Nat.le_of_ble_eq_true rfl⟩ rfl (Nat.le_of_ble_eq_true rfl) ⟨Nat.le_of_ble_eq_true rfl, Nat.le_of_ble_eq_true rfl⟩ rfl dX11_gridAt_8) h (fun r2 f3 H locs p4 h => ?_)
  have n5 : (-65 : Int64).toInt = (-65) := rfl
  have n6 : (74 : Int64).toInt = 74 := rfl
  obtain ⟨ir2, tf3, ogf3, cnr2⟩ := p4
  have egf3 := Fr.nil2 ogf3
  subst egf3
  refine lv_if_eq (tgt := 41) hx hb dX11_gridAt_11 (by decide) (fun c7 => ?_) (fun c7 => ?_)
  · have c8 : r2.toInt = 0 := congrArg Int32.toInt c7
    have i9 : iv r2 0 0 := iv_Q c8 ir2 (iv_k (x := 0) (k := 0) rfl) (by decide)
    refine lv_lconst (v := 0) hx hb dX11_gridAt_41 (by decide) ?_
    exact u_lret C h hr hQ (⟨t, o⟩) (Nat.le_of_ble_eq_true rfl) (Nat.le_of_ble_eq_true rfl) dX11_gridAt_42
  · have c10 : r2.toInt ≠ 0 := fun z_ => c7 (Int32.toInt_inj.mp z_)
    have i11 : iv r2 1 1 := iv_Nl c10 ir2 (by decide)
    obtain ⟨i12, i13⟩ := cnr2 c10
    have i14 : iv u1 (-65) 74 := ⟨by omega, by omega⟩
    refine lv_iload_n hx hb dX11_gridAt_14 rfl (lv_at hl 2 rfl) ?_
    refine lv_i2l hx hb dX11_gridAt_15 rfl (i_topL hu2 (fun w15 ew15 mw15 iw15 => ?_))
    refine lv_ldc2 (v := -65) hx hb hown (hts _ w_1724) dX11_gridAt_16 ?_
    refine lv_ldc2 (v := 74) hx hb hown (hts _ w_1725) dX11_gridAt_19 ?_
    refine k_i (r_S C h hl (As := [.long w15, .long (-65), .long 74]) (rest := []) (s_X11_isIn19 l D G b0 τ f t w15 (-65) 74) mk_X11_isIn w_1624 w_1625 w_1626 ⟨Nat.le_of_ble_eq_true rfl, Nat.le_of_ble_eq_true rfl⟩ rfl (Nat.le_of_ble_eq_true rfl) ⟨Nat.le_of_ble_eq_true rfl, Nat.le_of_ble_eq_true rfl⟩ rfl dX11_gridAt_22) h (fun r16 f17 H locs p18 h => ?_)
    have n19 : (-65 : Int64).toInt = (-65) := rfl
    have n20 : (74 : Int64).toInt = 74 := rfl
    obtain ⟨ir16, tf17, ogf17, cnr16⟩ := p18
    have egf17 := Fr.nil2 ogf17
    subst egf17
    refine lv_if_eq (tgt := 41) hx hb dX11_gridAt_25 (by decide) (fun c21 => ?_) (fun c21 => ?_)
    · have c22 : r16.toInt = 0 := congrArg Int32.toInt c21
      have i23 : iv r16 0 0 := iv_Q c22 ir16 (iv_k (x := 0) (k := 0) rfl) (by decide)
      refine lv_lconst (v := 0) hx hb dX11_gridAt_41 (by decide) ?_
      exact u_lret C h hr hQ (⟨t, o⟩) (Nat.le_of_ble_eq_true rfl) (Nat.le_of_ble_eq_true rfl) dX11_gridAt_42
    · have c24 : r16.toInt ≠ 0 := fun z_ => c21 (Int32.toInt_inj.mp z_)
      have i25 : iv r16 1 1 := iv_Nl c24 ir16 (by decide)
      obtain ⟨i26, i27⟩ := cnr16 c24
      have i28 : iv u2 (-65) 74 := ⟨by omega, by omega⟩
      refine lv_aload_n hx hb dX11_gridAt_28 rfl (lv_at hl 0 rfl) ?_
      refine t_getr (tq := 67) C h t hu0 (by decide) wf_60 rfl fl_X11_29 dX11_gridAt_29 (fun q29 tq29 => ?_)
      refine lv_iload_n hx hb dX11_gridAt_32 rfl (lv_at hl 1 rfl) ?_
      refine lv_iload_n hx hb dX11_gridAt_33 rfl (lv_at hl 2 rfl) ?_
      refine k_i (r_S C h hl (As := [.int u1, .int u2]) (rest := [.ref q29]) (s_X11_cell19 l D G b0 τ f t u1 i14 u2 i28) mk_X11_cell w_1706 w_1707 w_1708 ⟨Nat.le_of_ble_eq_true rfl, Nat.le_of_ble_eq_true rfl⟩ rfl (Nat.le_of_ble_eq_true rfl) ⟨Nat.le_of_ble_eq_true rfl, Nat.le_of_ble_eq_true rfl⟩ rfl dX11_gridAt_34) h (fun r30 f31 H locs p32 h => ?_)
      obtain ⟨ir30, tf31, ogf31, x0r30⟩ := p32
      have egf31 := Fr.nil2 ogf31
      subst egf31
      refine t_lald C h t tq29 (by decide) wf_67 (iv_in ir30 (by decide)) dX11_gridAt_37 (fun w33 => ?_)
      refine lv_goto (tgt := 42) hx hb dX11_gridAt_38 (by decide) ?_
      exact u_lret C h hr hQ (⟨t, o⟩) (Nat.le_of_ble_eq_true rfl) (Nat.le_of_ble_eq_true rfl) dX11_gridAt_42
abbrev rm_s_X11_walksFrom : Room := { frames := 3, cells := 0, slots := 0, locals := 83 }
set_option maxRecDepth 100000 in
set_option maxHeartbeats 4000000 in
theorem s_X11_walksFrom (l : Launch) (D : va_G) (G : Nat → Nat) (b0 : Nat) (τ : Nat → Nat) (f : hM) (t : TI G 9 τ f) (u0 : Nat) (hu0 : τ u0 = 60) (u1 : Int32) (hu1 : iv u1 0 7) (u2 : Int32) (hu2 : iv u2 0 10) (u3 : Int32) (hu3 : iv u3 (-12) 19) (u4 : Int32) (hu4 : iv u4 (-12) 19) (u5 : Int32) (hu5 : iv u5 (-2147483648) 2147483647) (u6 : Int32) (hu6 : iv u6 (-2147483648) 2147483647) (hNG : NGs τ f u0) : mL l yX11_walksFrom cX11_walksFrom 9 rm_s_X11_walksFrom D G b0 f [.ref u0, .int u1, .int u2, .int u3, .int u4, .int u5, .int u6] (fun r f1 => TI G 9 τ f1 ∧ Fr [60, 67, 60013, 60014, 60015] τ f f1 ∧ NGs τ f1 u0) := by
  refine met2 (own := RX11) (by decide) rfl (Nat.le_of_ble_eq_true rfl) ?_
  intro p e s m args below meth c ls Q hQ C hr hini hl h
  have hl : lv_has ls 9 [(0, .ref u0), (1, .int u1), (2, .int u2), (3, .int u3), (4, .int u4), (5, .int u5), (6, .int u6)] := hl
  obtain ⟨hx, hb, hml, hown, hts, hE0, hlk⟩ := id C
  have o := Fr.rf [60, 67, 60013, 60014, 60015] τ f
  obtain ⟨bq, hbq, kbq⟩ := t_fref (tq := 63) (k := 6) t hu0 (by decide) wf_60 rfl
  obtain ⟨r0, hr0⟩ := bk_row t hbq
  refine lv_iconst (v := 0) hx hb dX11_walksFrom_0 (by decide) ?_
  refine lv_iload_n hx hb dX11_walksFrom_1 rfl (lv_at hl 3 rfl) ?_
  refine lv_iload hx hb dX11_walksFrom_2 (lv_at hl 4 rfl) ?_
  refine k_i (r_S C h hl (As := [.int 0, .int u3, .int u4]) (rest := []) (s_X11_isInside l D G b0 τ f t 0 (iv_w (iv_k (x := 0) (k := 0) rfl) (by decide)) u3 (iv_w hu3 (by decide)) u4 (iv_w hu4 (by decide))) mk_X11_isInside w_1713 w_1714 w_1715 ⟨Nat.le_of_ble_eq_true rfl, Nat.le_of_ble_eq_true rfl⟩ rfl (Nat.le_of_ble_eq_true rfl) ⟨Nat.le_of_ble_eq_true rfl, Nat.le_of_ble_eq_true rfl⟩ rfl dX11_walksFrom_4) h (fun r1 f2 H locs p3 h => ?_)
  have n4 : (0 : Int32).toInt = 0 := rfl
  obtain ⟨ir1, tf2, ogf2, cnr1⟩ := p3
  have egf2 := Fr.nil2 ogf2
  subst egf2
  refine lv_if_ne (tgt := 12) hx hb dX11_walksFrom_7 (by decide) (fun c5 => ?_) (fun c5 => ?_)
  · have c6 : r1.toInt ≠ 0 := fun z_ => c5 (Int32.toInt_inj.mp z_)
    have i7 : iv r1 1 1 := iv_Nl c6 ir1 (by decide)
    have i8 := cnr1 c6
    refine lv_iload_n hx hb dX11_walksFrom_12 rfl (lv_at hl 2 rfl) ?_
    refine lv_if_ne (tgt := 35) hx hb dX11_walksFrom_13 (by decide) (fun c11 => ?_) (fun c11 => ?_)
    · have c12 : u2.toInt ≠ 0 := fun z_ => c11 (Int32.toInt_inj.mp z_)
      have i13 : iv u2 1 10 := iv_Nl c12 hu2 (by decide)
      refine lv_aload_n hx hb dX11_walksFrom_35 rfl (lv_at hl 0 rfl) ?_
      refine t_getfd C h t hu0 (by decide) wf_60 (v := .ref bq) kbq fl_X11_17 dX11_walksFrom_36 ?_
      refine lv_bipush (v := 10) hx hb dX11_walksFrom_39 (by decide) ?_
      refine lv_iload_n hx hb dX11_walksFrom_41 rfl (lv_at hl 1 rfl) ?_
      refine i_cmul hx hb dX11_walksFrom_42 (k := 10) rfl hu1 (lo := 0) (hi := 70) (by decide) (fun z16 ez16 mz16 iz16 => ?_)
      refine lv_bipush (v := 8) hx hb dX11_walksFrom_43 (by decide) ?_
      refine i_addk hx hb dX11_walksFrom_45 iz16 (k := 8) rfl (lo := 8) (hi := 78) (by decide) (fun z17 ez17 mz17 iz17 => ?_)
      refine t_bkr C h t hbq hr0 iz17 (by decide) dX11_walksFrom_46 (fun z18 ez18 iz18 => ?_)
      refine lv_istore (lv' := [(7, .int z18), (0, .ref u0), (1, .int u1), (2, .int u2), (3, .int u3), (4, .int u4), (5, .int u5), (6, .int u6)]) hx hb dX11_walksFrom_47 hl (by decide) rfl (fun ls hl => ?_)
      refine lv_aload_n hx hb dX11_walksFrom_49 rfl (lv_at hl 1 rfl) ?_
      refine t_getfd C h t hu0 (by decide) wf_60 (v := .ref bq) kbq fl_X11_17 dX11_walksFrom_50 ?_
      refine lv_bipush (v := 10) hx hb dX11_walksFrom_53 (by decide) ?_
      refine lv_iload_n hx hb dX11_walksFrom_55 rfl (lv_at hl 2 rfl) ?_
      refine i_cmul hx hb dX11_walksFrom_56 (k := 10) rfl hu1 (lo := 0) (hi := 70) (by decide) (fun z19 ez19 mz19 iz19 => ?_)
      refine lv_bipush (v := 9) hx hb dX11_walksFrom_57 (by decide) ?_
      refine i_addk hx hb dX11_walksFrom_59 iz19 (k := 9) rfl (lo := 9) (hi := 79) (by decide) (fun z20 ez20 mz20 iz20 => ?_)
      refine t_bkr C h t hbq hr0 iz20 (by decide) dX11_walksFrom_60 (fun z21 ez21 iz21 => ?_)
      refine lv_istore (lv' := [(8, .int z21), (7, .int z18), (0, .ref u0), (1, .int u1), (2, .int u2), (3, .int u3), (4, .int u4), (5, .int u5), (6, .int u6)]) hx hb dX11_walksFrom_61 hl (by decide) rfl (fun ls hl => ?_)
      refine lv_aload_n hx hb dX11_walksFrom_63 rfl (lv_at hl 2 rfl) ?_
      refine t_getfd C h t hu0 (by decide) wf_60 (v := .ref bq) kbq fl_X11_17 dX11_walksFrom_64 ?_
      refine lv_bipush (v := 10) hx hb dX11_walksFrom_67 (by decide) ?_
      refine lv_iload_n hx hb dX11_walksFrom_69 rfl (lv_at hl 3 rfl) ?_
      refine i_cmul hx hb dX11_walksFrom_70 (k := 10) rfl hu1 (lo := 0) (hi := 70) (by decide) (fun z22 ez22 mz22 iz22 => ?_)
      refine lv_bipush (v := 8) hx hb dX11_walksFrom_71 (by decide) ?_
      refine i_addk hx hb dX11_walksFrom_73 iz22 (k := 8) rfl (lo := 8) (hi := 78) (by decide) (fun z23 ez23 mz23 iz23 => ?_)
      refine lv_iload_n hx hb dX11_walksFrom_74 rfl (lv_at hl 5 rfl) ?_
      have t19 := TI.up19 t
      have o19 := Fr.wk o
      refine t_bkw C h t19 o19 hbq (by decide) hr0 iz23 (by decide) (show iv u3 0 19 from by omega) dX11_walksFrom_75 (fun f24 H locs h tf24 of24 hq q26 k25 => ?_)
      have k27 := NGs.tg hNG hq hu0 (by decide)
      have k28 := atp.tg kbq hq hu0 (by decide)
      refine lv_aload_n hx hb dX11_walksFrom_76 rfl (lv_at hl 2 rfl) ?_
      refine t_getfd C h tf24 hu0 (by decide) wf_60 (v := .ref bq) k28 fl_X11_17 dX11_walksFrom_77 ?_
      refine lv_bipush (v := 10) hx hb dX11_walksFrom_80 (by decide) ?_
      refine lv_iload_n hx hb dX11_walksFrom_82 rfl (lv_at hl 3 rfl) ?_
      refine i_cmul hx hb dX11_walksFrom_83 (k := 10) rfl hu1 (lo := 0) (hi := 70) (by decide) (fun z29 ez29 mz29 iz29 => ?_)
      refine lv_bipush (v := 9) hx hb dX11_walksFrom_84 (by decide) ?_
      refine i_addk hx hb dX11_walksFrom_86 iz29 (k := 9) rfl (lo := 9) (hi := 79) (by decide) (fun z30 ez30 mz30 iz30 => ?_)
      refine lv_iload hx hb dX11_walksFrom_87 (lv_at hl 6 rfl) ?_
      refine t_bkw C h tf24 of24 hbq (by decide) k25 iz30 (by decide) (show iv u4 0 19 from by omega) dX11_walksFrom_89 (fun f31 H locs h tf31 of31 hq q33 k32 => ?_)
      have k34 := NGs.tg k27 hq hu0 (by decide)
      have k35 := atp.tg k28 hq hu0 (by decide)
      refine lv_aload_n hx hb dX11_walksFrom_90 rfl (lv_at hl 2 rfl) ?_
      refine lv_iload_n hx hb dX11_walksFrom_91 rfl (lv_at hl 3 rfl) ?_
      refine lv_iconst (v := 0) hx hb dX11_walksFrom_92 (by decide) ?_
      refine lv_iconst (v := 3) hx hb dX11_walksFrom_93 (by decide) ?_
      refine lv_iload_n hx hb dX11_walksFrom_94 rfl (lv_at hl 4 rfl) ?_
      obtain ⟨_, r36⟩ := t_rec tf31 hu0 (by decide) wf_60
      refine k_v (r_V C h hl (As := [.int u1, .int 0, .int 3, .int u2]) (rest := []) (s_X11_goesOn19 l D G b0 τ f31 tf31 u0 hu0 u1 hu1 0 (iv_w (iv_k (x := 0) (k := 0) rfl) (by decide)) 3 (iv_w (iv_k (x := 3) (k := 3) rfl) (by decide)) u2 (iv_w i13 (by decide)) k34) r36 (Cn := RX11) (T := TX11) (N := 32) rfl rfl mk_X11_goesOn w_1698 w_1700 w_57 w_1701 ⟨Nat.le_of_ble_eq_true rfl, Nat.le_of_ble_eq_true rfl⟩ rfl (Nat.le_of_ble_eq_true rfl) ⟨Nat.le_of_ble_eq_true rfl, Nat.le_of_ble_eq_true rfl⟩ rfl dX11_walksFrom_95) h (fun f38 H locs p39 h => ?_)
      have n40 : (0 : Int32).toInt = 0 := rfl
      have n41 : (3 : Int32).toInt = 3 := rfl
      obtain ⟨tf38, ogf38, ⟨gg_f38, kpu0_14f38, ipu0_14f38, rpu0_14f38⟩, ngf38⟩ := p39
      have of38 : Fr (63 :: [60, 67, 60013, 60014, 60015]) τ f f38 := Fr.tr of31 ogf38 (by decide) (by decide)
      have k42 := atp.fk k35 ogf38 hu0 (by decide) (by decide)
      have k43 := atp.fr k32 ogf38 hbq (by decide)
      refine lv_aload_n hx hb dX11_walksFrom_98 rfl (lv_at hl 2 rfl) ?_
      refine t_getfd C h tf38 hu0 (by decide) wf_60 (v := .ref bq) k42 fl_X11_17 dX11_walksFrom_99 ?_
      refine lv_bipush (v := 10) hx hb dX11_walksFrom_102 (by decide) ?_
      refine lv_iload_n hx hb dX11_walksFrom_104 rfl (lv_at hl 3 rfl) ?_
      refine i_cmul hx hb dX11_walksFrom_105 (k := 10) rfl hu1 (lo := 0) (hi := 70) (by decide) (fun z44 ez44 mz44 iz44 => ?_)
      refine lv_bipush (v := 8) hx hb dX11_walksFrom_106 (by decide) ?_
      refine i_addk hx hb dX11_walksFrom_108 iz44 (k := 8) rfl (lo := 8) (hi := 78) (by decide) (fun z45 ez45 mz45 iz45 => ?_)
      refine lv_iload hx hb dX11_walksFrom_109 (lv_at hl 1 rfl) ?_
      refine t_bkw C h tf38 of38 hbq (by decide) k43 iz45 (by decide) (iv_w iz18 (by decide)) dX11_walksFrom_111 (fun f46 H locs h tf46 of46 hq q48 k47 => ?_)
      have k49 := atp.tg k42 hq hu0 (by decide)
      have k50 := NGs.tg ngf38 hq hu0 (by decide)
      have k51 := atp.tg kpu0_14f38 hq hu0 (by decide)
      refine lv_aload_n hx hb dX11_walksFrom_112 rfl (lv_at hl 2 rfl) ?_
      refine t_getfd C h tf46 hu0 (by decide) wf_60 (v := .ref bq) k49 fl_X11_17 dX11_walksFrom_113 ?_
      refine lv_bipush (v := 10) hx hb dX11_walksFrom_116 (by decide) ?_
      refine lv_iload_n hx hb dX11_walksFrom_118 rfl (lv_at hl 3 rfl) ?_
      refine i_cmul hx hb dX11_walksFrom_119 (k := 10) rfl hu1 (lo := 0) (hi := 70) (by decide) (fun z52 ez52 mz52 iz52 => ?_)
      refine lv_bipush (v := 9) hx hb dX11_walksFrom_120 (by decide) ?_
      refine i_addk hx hb dX11_walksFrom_122 iz52 (k := 9) rfl (lo := 9) (hi := 79) (by decide) (fun z53 ez53 mz53 iz53 => ?_)
      refine lv_iload hx hb dX11_walksFrom_123 (lv_at hl 0 rfl) ?_
      refine t_bkw C h tf46 of46 hbq (by decide) k47 iz53 (by decide) (iv_w iz21 (by decide)) dX11_walksFrom_125 (fun f54 H locs h tf54 of54 hq q56 k55 => ?_)
      have k57 := atp.tg k49 hq hu0 (by decide)
      have k58 := NGs.tg k50 hq hu0 (by decide)
      have k59 := atp.tg k51 hq hu0 (by decide)
      have er : upd (upd (upd (upd r0 (Int32.toNatClampNeg z23) u3) (Int32.toNatClampNeg z30) u4) (Int32.toNatClampNeg z45) z18) (Int32.toNatClampNeg z53) z21 = r0 := upd_back (cl_eq (by omega)) (cl_eq (by omega)) (by rw [ez18]; exact congrArg r0 (cl_eq (by omega))) (by rw [ez21]; exact congrArg r0 (cl_eq (by omega)))
      rw [er] at k55
      have hbb : ∀ q, τ q = 63 → f54 q = f q := fun q hq9 => by
        by_cases hqb : q = bq
        · rw [hqb]; exact eqc_same hr0 k55
        · rw [q56 q hqb, q48 q hqb, ogf38.1 q (by rw [hq9]; decide), q33 q hqb, q26 q hqb]
      have tB := TI.back t tf54 hbb
      have oB := Fr.drop of54 hbb
      refine lv_aload_n hx hb dX11_walksFrom_126 rfl (lv_at hl 2 rfl) ?_
      refine lv_iload hx hb dX11_walksFrom_127 (lv_at hl 7 rfl) ?_
      refine lv_iload hx hb dX11_walksFrom_129 (lv_at hl 8 rfl) ?_
      obtain ⟨_, r60⟩ := t_rec tB hu0 (by decide) wf_60
      refine k_l (r_V C h hl (As := [.int u5, .int u6]) (rest := []) (s_X11_gridAt l D G b0 τ f54 tB u0 hu0 u5 hu5 u6 hu6) r60 (Cn := RX11) (T := TX11) (N := 32) rfl rfl mk_X11_gridAt w_1720 w_1722 w_60 w_1723 ⟨Nat.le_of_ble_eq_true rfl, Nat.le_of_ble_eq_true rfl⟩ rfl (Nat.le_of_ble_eq_true rfl) ⟨Nat.le_of_ble_eq_true rfl, Nat.le_of_ble_eq_true rfl⟩ rfl dX11_walksFrom_131) h (fun r61 f62 H locs p63 h => ?_)
      obtain ⟨tf62, ogf62⟩ := p63
      have egf62 := Fr.nil2 ogf62
      subst egf62
      exact u_lret C h hr hQ (⟨tB, oB, k58⟩) (Nat.le_of_ble_eq_true rfl) (Nat.le_of_ble_eq_true rfl) dX11_walksFrom_134
    · have c14 : u2.toInt = 0 := congrArg Int32.toInt c11
      have i15 : iv u2 0 0 := iv_Q c14 hu2 (iv_k (x := 0) (k := 0) rfl) (by decide)
      refine lv_iload_n hx hb dX11_walksFrom_16 rfl (lv_at hl 3 rfl) ?_
      refine lv_iload hx hb dX11_walksFrom_17 (lv_at hl 5 rfl) ?_
      refine lv_icmp_ne (tgt := 33) hx hb dX11_walksFrom_19 (by decide) (fun c64 => ?_) (fun c64 => ?_)
      · have c65 : u3.toInt ≠ u5.toInt := fun z_ => c64 (Int32.toInt_inj.mp z_)
        refine lv_lconst (v := 0) hx hb dX11_walksFrom_33 (by decide) ?_
        exact u_lret C h hr hQ (⟨t, o, hNG⟩) (Nat.le_of_ble_eq_true rfl) (Nat.le_of_ble_eq_true rfl) dX11_walksFrom_34
      · have c66 : u3.toInt = u5.toInt := congrArg Int32.toInt c64
        have i67 : iv u5 (-12) 19 := iv_Q c66.symm hu5 hu3 (by decide)
        refine lv_iload hx hb dX11_walksFrom_22 (lv_at hl 4 rfl) ?_
        refine lv_iload hx hb dX11_walksFrom_24 (lv_at hl 6 rfl) ?_
        refine lv_icmp_ne (tgt := 33) hx hb dX11_walksFrom_26 (by decide) (fun c68 => ?_) (fun c68 => ?_)
        · have c69 : u4.toInt ≠ u6.toInt := fun z_ => c68 (Int32.toInt_inj.mp z_)
          refine lv_lconst (v := 0) hx hb dX11_walksFrom_33 (by decide) ?_
          exact u_lret C h hr hQ (⟨t, o, hNG⟩) (Nat.le_of_ble_eq_true rfl) (Nat.le_of_ble_eq_true rfl) dX11_walksFrom_34
        · have c70 : u4.toInt = u6.toInt := congrArg Int32.toInt c68
          have i71 : iv u6 (-12) 19 := iv_Q c70.symm hu6 hu4 (by decide)
          refine lv_lconst (v := 1) hx hb dX11_walksFrom_29 (by decide) ?_
          refine lv_goto (tgt := 34) hx hb dX11_walksFrom_30 (by decide) ?_
          exact u_lret C h hr hQ (⟨t, o, hNG⟩) (Nat.le_of_ble_eq_true rfl) (Nat.le_of_ble_eq_true rfl) dX11_walksFrom_34
  · have c9 : r1.toInt = 0 := congrArg Int32.toInt c5
    have i10 : iv r1 0 0 := iv_Q c9 ir1 (iv_k (x := 0) (k := 0) rfl) (by decide)
    refine lv_lconst (v := 0) hx hb dX11_walksFrom_10 (by decide) ?_
    exact u_lret C h hr hQ (⟨t, o, hNG⟩) (Nat.le_of_ble_eq_true rfl) (Nat.le_of_ble_eq_true rfl) dX11_walksFrom_11
abbrev rm_s_X11_walkStep : Room := { frames := 4, cells := 0, slots := 0, locals := 111 }
set_option maxRecDepth 100000 in
set_option maxHeartbeats 4000000 in
theorem s_X11_walkStep (l : Launch) (D : va_G) (G : Nat → Nat) (b0 : Nat) (τ : Nat → Nat) (f : hM) (t : TI G 9 τ f) (u0 : Nat) (hu0 : τ u0 = 60) (u1 : Int32) (hu1 : iv u1 0 7) (u2 : Int32) (hu2 : iv u2 0 10) (u3 : Int32) (hu3 : iv u3 (-2147483648) 2147483647) (u4 : Int32) (hu4 : iv u4 (-2147483648) 2147483647) (u5 : Int64) (u6 : Int32) (hu6 : iv u6 (-1) 9) (hNG : NGs τ f u0) (hr0 : u6.toInt ≤ u2.toInt - 1) : mI l yX11_walkStep cX11_walkStep 16 (.int) rm_s_X11_walkStep D G b0 f [.ref u0, .int u1, .int u2, .int u3, .int u4, .long u5, .int u6] (fun r f1 => iv r (-1) 8 ∧ TI G 9 τ f1 ∧ Fr [60, 67, 60013, 60014, 60015] τ f f1 ∧ NGs τ f1 u0) := by
  refine met2 (own := RX11) (by decide) rfl (Nat.le_of_ble_eq_true rfl) ?_
  intro p e s m args below meth c ls Q hQ C hr hini hl h
  have hl : lv_has ls 16 [(0, .ref u0), (1, .int u1), (2, .int u2), (3, .int u3), (4, .int u4), (5, .long u5), (7, .int u6)] := hl
  obtain ⟨hx, hb, hml, hown, hts, hE0, hlk⟩ := id C
  have o := Fr.rf [60, 67, 60013, 60014, 60015] τ f
  have L28 : ∀ (n28 : Nat) (ls : Array Slot) (f_28 : hM) (H : Heap) (locs : List Loc) (v28_8 : Int64) (v28_10 : Int32) (v28_11 : Int32) (v28_12 : Int32) (v28_13 : Int32), 10 - v28_13.toInt < (n28 : Int) → lv_has ls 16 [(0, .ref u0), (1, .int u1), (2, .int u2), (3, .int u3), (4, .int u4), (7, .int u6), (8, .long v28_8), (10, .int v28_10), (11, .int v28_11), (12, .int v28_12), (13, .int v28_13)] → hw D b0 s.heap f_28 H locs → TI G 9 τ f_28 → Fr [60, 67, 60013, 60014, 60015] τ f f_28 → iv v28_10 (-11) 20 → iv v28_11 (-11) 20 → iv v28_12 (-1) 8 → iv v28_13 0 10 → NGs τ f_28 u0 → -v28_13.toInt ≤ v28_10.toInt → v28_10.toInt ≤ 9 + v28_13.toInt → -v28_13.toInt ≤ v28_11.toInt → v28_11.toInt ≤ 9 + v28_13.toInt → v28_13.toInt ≤ u6.toInt + 1 → W p l e rm_s_X11_walkStep s m args below meth c H locs 0 0 Q (F0 m 28 ls []) := by
    intro n28
    induction n28 with
    | zero => intro ls f_28 H locs v28_8 v28_10 v28_11 v28_12 v28_13 hm28 hl h t_28 o_28 iv28_10 iv28_11 iv28_12 iv28_13 k28_u0_NG hv28_0 hv28_1 hv28_2 hv28_3 hv28_4; exact absurd hm28 (by omega)
    | succ n28 ih28 =>
      intro ls f_28 H locs v28_8 v28_10 v28_11 v28_12 v28_13 hm28 hl h t_28 o_28 iv28_10 iv28_11 iv28_12 iv28_13 k28_u0_NG hv28_0 hv28_1 hv28_2 hv28_3 hv28_4
      have L38 : ∀ (n38 : Nat) (ls : Array Slot) (f_38 : hM) (H : Heap) (locs : List Loc) (v38_8 : Int64) (v38_12 : Int32), 8 - v38_12.toInt < (n38 : Int) → lv_has ls 16 [(0, .ref u0), (1, .int u1), (2, .int u2), (3, .int u3), (4, .int u4), (7, .int u6), (8, .long v38_8), (10, .int v28_10), (11, .int v28_11), (12, .int v38_12), (13, .int v28_13)] → hw D b0 s.heap f_38 H locs → TI G 9 τ f_38 → Fr [60, 67, 60013, 60014, 60015] τ f f_38 → iv u6 0 9 → iv v38_12 0 8 → iv v28_13 0 9 → NGs τ f_38 u0 → -v28_13.toInt ≤ v28_10.toInt → v28_10.toInt ≤ 9 + v28_13.toInt → -v28_13.toInt ≤ v28_11.toInt → v28_11.toInt ≤ 9 + v28_13.toInt → v28_13.toInt ≤ u6.toInt → W p l e rm_s_X11_walkStep s m args below meth c H locs 0 0 Q (F0 m 38 ls []) := by
        intro n38
        induction n38 with
        | zero => intro ls f_38 H locs v38_8 v38_12 hm38 hl h t_38 o_38 jv38_7 iv38_12 jv38_13 k38_u0_NG hv38_0 hv38_1 hv38_2 hv38_3 hv38_4; exact absurd hm38 (by omega)
        | succ n38 ih38 =>
          intro ls f_38 H locs v38_8 v38_12 hm38 hl h t_38 o_38 jv38_7 iv38_12 jv38_13 k38_u0_NG hv38_0 hv38_1 hv38_2 hv38_3 hv38_4
          refine lv_iload hx hb dX11_walkStep_38 (lv_at hl 9 rfl) ?_
          refine lv_bipush (v := 8) hx hb dX11_walkStep_40 (by decide) ?_
          refine lv_icmp_ge (tgt := 114) hx hb dX11_walkStep_42 (by decide) (fun c1 => ?_) (fun c1 => ?_)
          · have c2 : 8 ≤ v38_12.toInt := Int32.le_iff_toInt_le.mp c1
            have i3 : iv v38_12 8 8 := iv_Er c2 (iv_k (x := 8) (k := 8) rfl) iv38_12 (by decide)
            refine lv_iload hx hb dX11_walkStep_114 (lv_at hl 7 rfl) ?_
            refine lv_iload hx hb dX11_walkStep_116 (lv_at hl 9 rfl) ?_
            refine k_i (r_S C h hl (As := [.int v38_12]) (rest := [.int v28_10]) (s_X11_dx l D G b0 τ f_38 t_38 v38_12 (iv_w i3 (by decide))) mk_X11_dx w_1675 w_1676 w_1677 ⟨Nat.le_of_ble_eq_true rfl, Nat.le_of_ble_eq_true rfl⟩ rfl (Nat.le_of_ble_eq_true rfl) ⟨Nat.le_of_ble_eq_true rfl, Nat.le_of_ble_eq_true rfl⟩ rfl dX11_walkStep_118) h (fun r6 f7 H locs p8 h => ?_)
            obtain ⟨ir6, tf7, ogf7⟩ := p8
            have egf7 := Fr.nil2 ogf7
            subst egf7
            refine i_add hx hb dX11_walkStep_121 iv28_10 ir6 (lo := (-12)) (hi := 21) (by decide) (fun z9 ez9 mz9 iz9 => ?_)
            refine lv_istore (lv' := [(10, .int z9), (0, .ref u0), (1, .int u1), (2, .int u2), (3, .int u3), (4, .int u4), (7, .int u6), (8, .long v38_8), (11, .int v28_11), (12, .int v38_12), (13, .int v28_13)]) hx hb dX11_walkStep_122 hl (by decide) rfl (fun ls hl => ?_)
            refine lv_iload hx hb dX11_walkStep_124 (lv_at hl 8 rfl) ?_
            refine lv_iload hx hb dX11_walkStep_126 (lv_at hl 9 rfl) ?_
            refine k_i (r_S C h hl (As := [.int v38_12]) (rest := [.int v28_11]) (s_X11_dy l D G b0 τ f_38 t_38 v38_12 (iv_w i3 (by decide))) mk_X11_dy w_1678 w_1679 w_1680 ⟨Nat.le_of_ble_eq_true rfl, Nat.le_of_ble_eq_true rfl⟩ rfl (Nat.le_of_ble_eq_true rfl) ⟨Nat.le_of_ble_eq_true rfl, Nat.le_of_ble_eq_true rfl⟩ rfl dX11_walkStep_128) h (fun r10 f11 H locs p12 h => ?_)
            obtain ⟨ir10, tf11, ogf11⟩ := p12
            have egf11 := Fr.nil2 ogf11
            subst egf11
            refine i_add hx hb dX11_walkStep_131 iv28_11 ir10 (lo := (-12)) (hi := 21) (by decide) (fun z13 ez13 mz13 iz13 => ?_)
            refine lv_istore (lv' := [(11, .int z13), (10, .int z9), (0, .ref u0), (1, .int u1), (2, .int u2), (3, .int u3), (4, .int u4), (7, .int u6), (8, .long v38_8), (12, .int v38_12), (13, .int v28_13)]) hx hb dX11_walkStep_132 hl (by decide) rfl (fun ls hl => ?_)
            refine i_inc hx hb dX11_walkStep_134 hl (k := 10) rfl jv38_13 rfl (lo := 1) (hi := 10) (by decide) (by decide) (lv' := fun v => [(13, .int v), (11, .int z13), (10, .int z9), (0, .ref u0), (1, .int u1), (2, .int u2), (3, .int u3), (4, .int u4), (7, .int u6), (8, .long v38_8), (12, .int v38_12)]) (fun _ => rfl) (fun z14 ls ez14 mz14 iz14 hl => ?_)
            refine lv_goto (tgt := 28) hx hb dX11_walkStep_137 (by decide) ?_
            exact ih28 ls f_38 H locs v38_8 z9 z13 v38_12 z14 (show 10 - z14.toInt < _ by omega) (lv_cons hl 3 rfl (lv_cons hl 4 rfl (lv_cons hl 5 rfl (lv_cons hl 6 rfl (lv_cons hl 7 rfl (lv_cons hl 8 rfl (lv_cons hl 9 rfl (lv_cons hl 2 rfl (lv_cons hl 1 rfl (lv_cons hl 10 rfl (lv_cons hl 0 rfl (lv_nil hl)))))))))))) h t_38 o_38 (show iv z9 (-11) 20 from by omega) (show iv z13 (-11) 20 from by omega) (iv_w i3 (by decide)) (iv_w iz14 (by decide)) k38_u0_NG (show -z14.toInt ≤ z9.toInt by omega) (show z9.toInt ≤ 9 + z14.toInt by omega) (show -z14.toInt ≤ z13.toInt by omega) (show z13.toInt ≤ 9 + z14.toInt by omega) (show z14.toInt ≤ u6.toInt + 1 by omega)
          · have c4 : v38_12.toInt < 8 := Int32.lt_iff_toInt_lt.mp (iv_nle c1)
            have i5 : iv v38_12 0 7 := iv_Ll c4 iv38_12 (iv_k (x := 8) (k := 8) rfl) (by decide)
            refine lv_aload_n hx hb dX11_walkStep_45 rfl (lv_at hl 0 rfl) ?_
            refine lv_iload_n hx hb dX11_walkStep_46 rfl (lv_at hl 1 rfl) ?_
            refine lv_iload hx hb dX11_walkStep_47 (lv_at hl 9 rfl) ?_
            obtain ⟨_, r15⟩ := t_rec t_38 hu0 (by decide) wf_60
            refine k_i (r_V C h hl (As := [.int u1, .int v38_12]) (rest := []) (s_X11_weightOf l D G b0 τ f_38 t_38 u0 hu0 u1 hu1 v38_12 (iv_w i5 (by decide))) r15 (Cn := RX11) (T := TX11) (N := 32) rfl rfl mk_X11_weightOf w_1631 w_1633 w_52 w_1634 ⟨Nat.le_of_ble_eq_true rfl, Nat.le_of_ble_eq_true rfl⟩ rfl (Nat.le_of_ble_eq_true rfl) ⟨Nat.le_of_ble_eq_true rfl, Nat.le_of_ble_eq_true rfl⟩ rfl dX11_walkStep_49) h (fun r16 f17 H locs p18 h => ?_)
            obtain ⟨ir16, tf17, ogf17⟩ := p18
            have egf17 := Fr.nil2 ogf17
            subst egf17
            refine lv_if_ne (tgt := 58) hx hb dX11_walkStep_52 (by decide) (fun c19 => ?_) (fun c19 => ?_)
            · have c20 : r16.toInt ≠ 0 := fun z_ => c19 (Int32.toInt_inj.mp z_)
              have i21 : iv r16 1 9 := iv_Nl c20 ir16 (by decide)
              refine lv_aload_n hx hb dX11_walkStep_58 rfl (lv_at hl 0 rfl) ?_
              refine lv_iload_n hx hb dX11_walkStep_59 rfl (lv_at hl 1 rfl) ?_
              refine lv_iload_n hx hb dX11_walkStep_60 rfl (lv_at hl 2 rfl) ?_
              refine lv_iload hx hb dX11_walkStep_61 (lv_at hl 10 rfl) ?_
              refine i_sub hx hb dX11_walkStep_63 hu2 jv38_13 (lo := (-9)) (hi := 10) (by decide) (fun z24 ez24 mz24 iz24 => ?_)
              refine lv_iconst (v := 1) hx hb dX11_walkStep_64 (by decide) ?_
              refine i_subk hx hb dX11_walkStep_65 iz24 (k := 1) rfl (lo := (-10)) (hi := 9) (by decide) (fun z25 ez25 mz25 iz25 => ?_)
              refine lv_iload hx hb dX11_walkStep_66 (lv_at hl 7 rfl) ?_
              refine lv_iload hx hb dX11_walkStep_68 (lv_at hl 9 rfl) ?_
              refine k_i (r_S C h hl (As := [.int v38_12]) (rest := [.int v28_10, .int z25, .int u1, .ref u0]) (s_X11_dx l D G b0 τ f_38 t_38 v38_12 (iv_w i5 (by decide))) mk_X11_dx w_1675 w_1676 w_1677 ⟨Nat.le_of_ble_eq_true rfl, Nat.le_of_ble_eq_true rfl⟩ rfl (Nat.le_of_ble_eq_true rfl) ⟨Nat.le_of_ble_eq_true rfl, Nat.le_of_ble_eq_true rfl⟩ rfl dX11_walkStep_70) h (fun r26 f27 H locs p28 h => ?_)
              obtain ⟨ir26, tf27, ogf27⟩ := p28
              have egf27 := Fr.nil2 ogf27
              subst egf27
              refine i_add hx hb dX11_walkStep_73 iv28_10 ir26 (lo := (-12)) (hi := 21) (by decide) (fun z29 ez29 mz29 iz29 => ?_)
              refine lv_iload hx hb dX11_walkStep_74 (lv_at hl 8 rfl) ?_
              refine lv_iload hx hb dX11_walkStep_76 (lv_at hl 9 rfl) ?_
              refine k_i (r_S C h hl (As := [.int v38_12]) (rest := [.int v28_11, .int z29, .int z25, .int u1, .ref u0]) (s_X11_dy l D G b0 τ f_38 t_38 v38_12 (iv_w i5 (by decide))) mk_X11_dy w_1678 w_1679 w_1680 ⟨Nat.le_of_ble_eq_true rfl, Nat.le_of_ble_eq_true rfl⟩ rfl (Nat.le_of_ble_eq_true rfl) ⟨Nat.le_of_ble_eq_true rfl, Nat.le_of_ble_eq_true rfl⟩ rfl dX11_walkStep_78) h (fun r30 f31 H locs p32 h => ?_)
              obtain ⟨ir30, tf31, ogf31⟩ := p32
              have egf31 := Fr.nil2 ogf31
              subst egf31
              refine i_add hx hb dX11_walkStep_81 iv28_11 ir30 (lo := (-12)) (hi := 21) (by decide) (fun z33 ez33 mz33 iz33 => ?_)
              refine lv_iload_n hx hb dX11_walkStep_82 rfl (lv_at hl 3 rfl) ?_
              refine lv_iload hx hb dX11_walkStep_83 (lv_at hl 4 rfl) ?_
              obtain ⟨_, r34⟩ := t_rec t_38 hu0 (by decide) wf_60
              refine k_l (r_V C h hl (As := [.int u1, .int z25, .int z29, .int z33, .int u3, .int u4]) (rest := []) (s_X11_walksFrom l D G b0 τ f_38 t_38 u0 hu0 u1 hu1 z25 (show iv z25 0 10 from by omega) z29 (show iv z29 (-12) 19 from by omega) z33 (show iv z33 (-12) 19 from by omega) u3 hu3 u4 hu4 k38_u0_NG) r34 (Cn := RX11) (T := TX11) (N := 32) rfl rfl mk_X11_walksFrom w_1832 w_1834 w_70 w_1835 ⟨Nat.le_of_ble_eq_true rfl, Nat.le_of_ble_eq_true rfl⟩ rfl (Nat.le_of_ble_eq_true rfl) ⟨Nat.le_of_ble_eq_true rfl, Nat.le_of_ble_eq_true rfl⟩ rfl dX11_walkStep_85) h (fun r35 f36 H locs p37 h => ?_)
              obtain ⟨tf36, ogf36, ngf36⟩ := p37
              have of36 : Fr [60, 67, 60013, 60014, 60015] τ f f36 := Fr.tr o_38 ogf36 (by decide) (by decide)
              refine lv_lstore (lv' := [(14, .long r35), (0, .ref u0), (1, .int u1), (2, .int u2), (3, .int u3), (4, .int u4), (7, .int u6), (8, .long v38_8), (10, .int v28_10), (11, .int v28_11), (12, .int v38_12), (13, .int v28_13)]) hx hb dX11_walkStep_88 hl (by decide) rfl (fun ls hl => ?_)
              refine lv_lload hx hb dX11_walkStep_90 (lv_at hl 7 rfl) ?_
              refine lv_lload hx hb dX11_walkStep_92 (lv_at hl 0 rfl) ?_
              refine W.lcmp hx hb dX11_walkStep_94 (i_topc (fun z38 ez38 mz38 iz38 => ?_))
              refine lv_if_ge (tgt := 101) hx hb dX11_walkStep_95 (by decide) (fun c39 => ?_) (fun c39 => ?_)
              · have c40 : 0 ≤ z38.toInt := Int32.le_iff_toInt_le.mp c39
                have i41 : iv z38 0 1 := iv_Er c40 (iv_k (x := 0) (k := 0) rfl) iz38 (by decide)
                refine lv_lload hx hb dX11_walkStep_101 (lv_at hl 7 rfl) ?_
                refine lv_lload hx hb dX11_walkStep_103 (lv_at hl 0 rfl) ?_
                refine lv_lsub hx hb dX11_walkStep_105 (lv_topl (fun w44 ew44 => ?_))
                refine lv_lstore (lv' := [(8, .long w44), (14, .long r35), (0, .ref u0), (1, .int u1), (2, .int u2), (3, .int u3), (4, .int u4), (7, .int u6), (10, .int v28_10), (11, .int v28_11), (12, .int v38_12), (13, .int v28_13)]) hx hb dX11_walkStep_106 hl (by decide) rfl (fun ls hl => ?_)
                refine i_inc hx hb dX11_walkStep_108 hl (k := 10) rfl i5 rfl (lo := 1) (hi := 8) (by decide) (by decide) (lv' := fun v => [(12, .int v), (8, .long w44), (14, .long r35), (0, .ref u0), (1, .int u1), (2, .int u2), (3, .int u3), (4, .int u4), (7, .int u6), (10, .int v28_10), (11, .int v28_11), (13, .int v28_13)]) (fun _ => rfl) (fun z45 ls ez45 mz45 iz45 hl => ?_)
                refine lv_goto (tgt := 38) hx hb dX11_walkStep_111 (by decide) ?_
                exact ih38 ls f36 H locs w44 z45 (show 8 - z45.toInt < _ by omega) (lv_cons hl 3 rfl (lv_cons hl 4 rfl (lv_cons hl 5 rfl (lv_cons hl 6 rfl (lv_cons hl 7 rfl (lv_cons hl 8 rfl (lv_cons hl 1 rfl (lv_cons hl 9 rfl (lv_cons hl 10 rfl (lv_cons hl 0 rfl (lv_cons hl 11 rfl (lv_nil hl)))))))))))) h tf36 of36 jv38_7 (iv_w iz45 (by decide)) jv38_13 ngf36 (show -v28_13.toInt ≤ v28_10.toInt by omega) (show v28_10.toInt ≤ 9 + v28_13.toInt by omega) (show -v28_13.toInt ≤ v28_11.toInt by omega) (show v28_11.toInt ≤ 9 + v28_13.toInt by omega) (show v28_13.toInt ≤ u6.toInt by omega)
              · have c42 : z38.toInt < 0 := Int32.lt_iff_toInt_lt.mp (iv_nle c39)
                have i43 : iv z38 (-1) (-1) := iv_Ll c42 iz38 (iv_k (x := 0) (k := 0) rfl) (by decide)
                refine lv_goto (tgt := 114) hx hb dX11_walkStep_98 (by decide) ?_
                refine lv_iload hx hb dX11_walkStep_114 (lv_at hl 8 rfl) ?_
                refine lv_iload hx hb dX11_walkStep_116 (lv_at hl 10 rfl) ?_
                refine k_i (r_S C h hl (As := [.int v38_12]) (rest := [.int v28_10]) (s_X11_dx l D G b0 τ f36 tf36 v38_12 (iv_w i5 (by decide))) mk_X11_dx w_1675 w_1676 w_1677 ⟨Nat.le_of_ble_eq_true rfl, Nat.le_of_ble_eq_true rfl⟩ rfl (Nat.le_of_ble_eq_true rfl) ⟨Nat.le_of_ble_eq_true rfl, Nat.le_of_ble_eq_true rfl⟩ rfl dX11_walkStep_118) h (fun r46 f47 H locs p48 h => ?_)
                obtain ⟨ir46, tf47, ogf47⟩ := p48
                have egf47 := Fr.nil2 ogf47
                subst egf47
                refine i_add hx hb dX11_walkStep_121 iv28_10 ir46 (lo := (-12)) (hi := 21) (by decide) (fun z49 ez49 mz49 iz49 => ?_)
                refine lv_istore (lv' := [(10, .int z49), (14, .long r35), (0, .ref u0), (1, .int u1), (2, .int u2), (3, .int u3), (4, .int u4), (7, .int u6), (8, .long v38_8), (11, .int v28_11), (12, .int v38_12), (13, .int v28_13)]) hx hb dX11_walkStep_122 hl (by decide) rfl (fun ls hl => ?_)
                refine lv_iload hx hb dX11_walkStep_124 (lv_at hl 9 rfl) ?_
                refine lv_iload hx hb dX11_walkStep_126 (lv_at hl 10 rfl) ?_
                refine k_i (r_S C h hl (As := [.int v38_12]) (rest := [.int v28_11]) (s_X11_dy l D G b0 τ f36 tf36 v38_12 (iv_w i5 (by decide))) mk_X11_dy w_1678 w_1679 w_1680 ⟨Nat.le_of_ble_eq_true rfl, Nat.le_of_ble_eq_true rfl⟩ rfl (Nat.le_of_ble_eq_true rfl) ⟨Nat.le_of_ble_eq_true rfl, Nat.le_of_ble_eq_true rfl⟩ rfl dX11_walkStep_128) h (fun r50 f51 H locs p52 h => ?_)
                obtain ⟨ir50, tf51, ogf51⟩ := p52
                have egf51 := Fr.nil2 ogf51
                subst egf51
                refine i_add hx hb dX11_walkStep_131 iv28_11 ir50 (lo := (-12)) (hi := 21) (by decide) (fun z53 ez53 mz53 iz53 => ?_)
                refine lv_istore (lv' := [(11, .int z53), (10, .int z49), (14, .long r35), (0, .ref u0), (1, .int u1), (2, .int u2), (3, .int u3), (4, .int u4), (7, .int u6), (8, .long v38_8), (12, .int v38_12), (13, .int v28_13)]) hx hb dX11_walkStep_132 hl (by decide) rfl (fun ls hl => ?_)
                refine i_inc hx hb dX11_walkStep_134 hl (k := 11) rfl jv38_13 rfl (lo := 1) (hi := 10) (by decide) (by decide) (lv' := fun v => [(13, .int v), (11, .int z53), (10, .int z49), (14, .long r35), (0, .ref u0), (1, .int u1), (2, .int u2), (3, .int u3), (4, .int u4), (7, .int u6), (8, .long v38_8), (12, .int v38_12)]) (fun _ => rfl) (fun z54 ls ez54 mz54 iz54 hl => ?_)
                refine lv_goto (tgt := 28) hx hb dX11_walkStep_137 (by decide) ?_
                exact ih28 ls f36 H locs v38_8 z49 z53 v38_12 z54 (show 10 - z54.toInt < _ by omega) (lv_cons hl 4 rfl (lv_cons hl 5 rfl (lv_cons hl 6 rfl (lv_cons hl 7 rfl (lv_cons hl 8 rfl (lv_cons hl 9 rfl (lv_cons hl 10 rfl (lv_cons hl 2 rfl (lv_cons hl 1 rfl (lv_cons hl 11 rfl (lv_cons hl 0 rfl (lv_nil hl)))))))))))) h tf36 of36 (show iv z49 (-11) 20 from by omega) (show iv z53 (-11) 20 from by omega) (iv_w i5 (by decide)) (iv_w iz54 (by decide)) ngf36 (show -z54.toInt ≤ z49.toInt by omega) (show z49.toInt ≤ 9 + z54.toInt by omega) (show -z54.toInt ≤ z53.toInt by omega) (show z53.toInt ≤ 9 + z54.toInt by omega) (show z54.toInt ≤ u6.toInt + 1 by omega)
            · have c22 : r16.toInt = 0 := congrArg Int32.toInt c19
              have i23 : iv r16 0 0 := iv_Q c22 ir16 (iv_k (x := 0) (k := 0) rfl) (by decide)
              refine lv_goto (tgt := 108) hx hb dX11_walkStep_55 (by decide) ?_
              refine i_inc hx hb dX11_walkStep_108 hl (k := 9) rfl i5 rfl (lo := 1) (hi := 8) (by decide) (by decide) (lv' := fun v => [(12, .int v), (0, .ref u0), (1, .int u1), (2, .int u2), (3, .int u3), (4, .int u4), (7, .int u6), (8, .long v38_8), (10, .int v28_10), (11, .int v28_11), (13, .int v28_13)]) (fun _ => rfl) (fun z55 ls ez55 mz55 iz55 hl => ?_)
              refine lv_goto (tgt := 38) hx hb dX11_walkStep_111 (by decide) ?_
              exact ih38 ls f_38 H locs v38_8 z55 (show 8 - z55.toInt < _ by omega) (lv_cons hl 1 rfl (lv_cons hl 2 rfl (lv_cons hl 3 rfl (lv_cons hl 4 rfl (lv_cons hl 5 rfl (lv_cons hl 6 rfl (lv_cons hl 7 rfl (lv_cons hl 8 rfl (lv_cons hl 9 rfl (lv_cons hl 0 rfl (lv_cons hl 10 rfl (lv_nil hl)))))))))))) h t_38 o_38 jv38_7 (iv_w iz55 (by decide)) jv38_13 k38_u0_NG (show -v28_13.toInt ≤ v28_10.toInt by omega) (show v28_10.toInt ≤ 9 + v28_13.toInt by omega) (show -v28_13.toInt ≤ v28_11.toInt by omega) (show v28_11.toInt ≤ 9 + v28_13.toInt by omega) (show v28_13.toInt ≤ u6.toInt by omega)
      refine lv_iload hx hb dX11_walkStep_28 (lv_at hl 10 rfl) ?_
      refine lv_iload hx hb dX11_walkStep_30 (lv_at hl 5 rfl) ?_
      refine lv_icmp_gt (tgt := 140) hx hb dX11_walkStep_32 (by decide) (fun c56 => ?_) (fun c56 => ?_)
      · have c57 : u6.toInt < v28_13.toInt := Int32.lt_iff_toInt_lt.mp c56
        refine lv_iload hx hb dX11_walkStep_140 (lv_at hl 9 rfl) ?_
        exact u_iret C h hr hQ (⟨iv28_12, t_28, o_28, k28_u0_NG⟩) (Nat.le_of_ble_eq_true rfl) (Nat.le_of_ble_eq_true rfl) dX11_walkStep_142
      · have c58 : v28_13.toInt ≤ u6.toInt := Int32.le_iff_toInt_le.mp (iv_nlt c56)
        have i59 : iv v28_13 0 9 := iv_El c58 iv28_13 hu6 (by decide)
        have i60 : iv u6 0 9 := iv_Er c58 iv28_13 hu6 (by decide)
        refine lv_iconst (v := 0) hx hb dX11_walkStep_35 (by decide) ?_
        refine lv_istore (lv' := [(12, .int 0), (0, .ref u0), (1, .int u1), (2, .int u2), (3, .int u3), (4, .int u4), (7, .int u6), (8, .long v28_8), (10, .int v28_10), (11, .int v28_11), (13, .int v28_13)]) hx hb dX11_walkStep_36 hl (by decide) rfl (fun ls hl => ?_)
        exact L38 9 ls f_28 H locs v28_8 0 (by decide) (lv_cons hl 1 rfl (lv_cons hl 2 rfl (lv_cons hl 3 rfl (lv_cons hl 4 rfl (lv_cons hl 5 rfl (lv_cons hl 6 rfl (lv_cons hl 7 rfl (lv_cons hl 8 rfl (lv_cons hl 9 rfl (lv_cons hl 0 rfl (lv_cons hl 10 rfl (lv_nil hl)))))))))))) h t_28 o_28 i60 ⟨by decide, by decide⟩ i59 k28_u0_NG (show -v28_13.toInt ≤ v28_10.toInt by omega) (show v28_10.toInt ≤ 9 + v28_13.toInt by omega) (show -v28_13.toInt ≤ v28_11.toInt by omega) (show v28_11.toInt ≤ 9 + v28_13.toInt by omega) (show v28_13.toInt ≤ u6.toInt by omega)
  refine lv_lload hx hb dX11_walkStep_0 (lv_at hl 5 rfl) ?_
  refine lv_lstore (lv' := [(8, .long u5), (0, .ref u0), (1, .int u1), (2, .int u2), (3, .int u3), (4, .int u4), (5, .long u5), (7, .int u6)]) hx hb dX11_walkStep_2 hl (by decide) rfl (fun ls hl => ?_)
  refine lv_aload_n hx hb dX11_walkStep_4 rfl (lv_at hl 1 rfl) ?_
  refine lv_iload_n hx hb dX11_walkStep_5 rfl (lv_at hl 2 rfl) ?_
  refine lv_bipush (v := 8) hx hb dX11_walkStep_6 (by decide) ?_
  obtain ⟨_, r61⟩ := t_rec t hu0 (by decide) wf_60
  refine k_i (r_V C h hl (As := [.int u1, .int 8]) (rest := []) (s_X11_weightOf l D G b0 τ f t u0 hu0 u1 hu1 8 (iv_w (iv_k (x := 8) (k := 8) rfl) (by decide))) r61 (Cn := RX11) (T := TX11) (N := 32) rfl rfl mk_X11_weightOf w_1631 w_1633 w_52 w_1634 ⟨Nat.le_of_ble_eq_true rfl, Nat.le_of_ble_eq_true rfl⟩ rfl (Nat.le_of_ble_eq_true rfl) ⟨Nat.le_of_ble_eq_true rfl, Nat.le_of_ble_eq_true rfl⟩ rfl dX11_walkStep_8) h (fun r62 f63 H locs p64 h => ?_)
  obtain ⟨ir62, tf63, ogf63⟩ := p64
  have egf63 := Fr.nil2 ogf63
  subst egf63
  refine lv_istore (lv' := [(10, .int r62), (8, .long u5), (0, .ref u0), (1, .int u1), (2, .int u2), (3, .int u3), (4, .int u4), (5, .long u5), (7, .int u6)]) hx hb dX11_walkStep_11 hl (by decide) rfl (fun ls hl => ?_)
  refine lv_aload_n hx hb dX11_walkStep_13 rfl (lv_at hl 2 rfl) ?_
  refine lv_iload_n hx hb dX11_walkStep_14 rfl (lv_at hl 3 rfl) ?_
  refine lv_bipush (v := 9) hx hb dX11_walkStep_15 (by decide) ?_
  obtain ⟨_, r65⟩ := t_rec t hu0 (by decide) wf_60
  refine k_i (r_V C h hl (As := [.int u1, .int 9]) (rest := []) (s_X11_weightOf l D G b0 τ f t u0 hu0 u1 hu1 9 (iv_w (iv_k (x := 9) (k := 9) rfl) (by decide))) r65 (Cn := RX11) (T := TX11) (N := 32) rfl rfl mk_X11_weightOf w_1631 w_1633 w_52 w_1634 ⟨Nat.le_of_ble_eq_true rfl, Nat.le_of_ble_eq_true rfl⟩ rfl (Nat.le_of_ble_eq_true rfl) ⟨Nat.le_of_ble_eq_true rfl, Nat.le_of_ble_eq_true rfl⟩ rfl dX11_walkStep_17) h (fun r66 f67 H locs p68 h => ?_)
  obtain ⟨ir66, tf67, ogf67⟩ := p68
  have egf67 := Fr.nil2 ogf67
  subst egf67
  refine lv_istore (lv' := [(11, .int r66), (10, .int r62), (8, .long u5), (0, .ref u0), (1, .int u1), (2, .int u2), (3, .int u3), (4, .int u4), (5, .long u5), (7, .int u6)]) hx hb dX11_walkStep_20 hl (by decide) rfl (fun ls hl => ?_)
  refine lv_iconst (v := -1) hx hb dX11_walkStep_22 (by decide) ?_
  refine lv_istore (lv' := [(12, .int (-1)), (11, .int r66), (10, .int r62), (8, .long u5), (0, .ref u0), (1, .int u1), (2, .int u2), (3, .int u3), (4, .int u4), (5, .long u5), (7, .int u6)]) hx hb dX11_walkStep_23 hl (by decide) rfl (fun ls hl => ?_)
  refine lv_iconst (v := 0) hx hb dX11_walkStep_25 (by decide) ?_
  refine lv_istore (lv' := [(13, .int 0), (12, .int (-1)), (11, .int r66), (10, .int r62), (8, .long u5), (0, .ref u0), (1, .int u1), (2, .int u2), (3, .int u3), (4, .int u4), (5, .long u5), (7, .int u6)]) hx hb dX11_walkStep_26 hl (by decide) rfl (fun ls hl => ?_)
  exact L28 11 ls f H locs u5 r62 r66 (-1) 0 (by decide) (lv_cons hl 5 rfl (lv_cons hl 6 rfl (lv_cons hl 7 rfl (lv_cons hl 8 rfl (lv_cons hl 9 rfl (lv_cons hl 11 rfl (lv_cons hl 4 rfl (lv_cons hl 3 rfl (lv_cons hl 2 rfl (lv_cons hl 1 rfl (lv_cons hl 0 rfl (lv_nil hl)))))))))))) h t o (iv_w ir62 (by decide)) (iv_w ir66 (by decide)) ⟨by decide, by decide⟩ ⟨by decide, by decide⟩ hNG (show -0 ≤ r62.toInt by omega) (show r62.toInt ≤ 9 + 0 by omega) (show -0 ≤ r66.toInt by omega) (show r66.toInt ≤ 9 + 0 by omega) (show 0 ≤ u6.toInt + 1 by omega)
abbrev rm_s_X11_walk : Room := { frames := 5, cells := 0, slots := 0, locals := 146 }
set_option maxRecDepth 100000 in
set_option maxHeartbeats 4000000 in
theorem s_X11_walk (l : Launch) (D : va_G) (G : Nat → Nat) (b0 : Nat) (τ : Nat → Nat) (f : hM) (t : TI G 9 τ f) (u0 : Nat) (hu0 : τ u0 = 60) (u1 : Int32) (hu1 : iv u1 (-2147483648) 2147483647) (u2 : Int32) (hu2 : iv u2 (-2147483648) 2147483647) (u3 : Int32) (hu3 : iv u3 (-2147483648) 2147483647) (u4 : Int32) (hu4 : iv u4 (-2147483648) 2147483647) (u5 : Int32) (hu5 : iv u5 (-2147483648) 2147483647) (u6 : Int32) (hu6 : iv u6 (-2147483648) 2147483647) (hNG : NGs τ f u0) : mI l yX11_walk cX11_walk 9 (.int) rm_s_X11_walk D G b0 f [.ref u0, .int u1, .int u2, .int u3, .int u4, .int u5, .int u6] (fun r f1 => iv r (-2147483648) 2147483647 ∧ TI G 9 τ f1 ∧ Fr [60, 67, 60001, 60013, 60014, 60015] τ f f1 ∧ NGs τ f1 u0) := by
  refine met2 (own := RX11) (by decide) rfl (Nat.le_of_ble_eq_true rfl) ?_
  intro p e s m args below meth c ls Q hQ C hr hini hl h
  have hl : lv_has ls 9 [(0, .ref u0), (1, .int u1), (2, .int u2), (3, .int u3), (4, .int u4), (5, .int u5), (6, .int u6)] := hl
  obtain ⟨hx, hb, hml, hown, hts, hE0, hlk⟩ := id C
  have o := Fr.rf [60, 67, 60001, 60013, 60014, 60015] τ f
  refine lv_aload_n hx hb dX11_walk_0 rfl (lv_at hl 0 rfl) ?_
  refine lv_iconst (v := 0) hx hb dX11_walk_1 (by decide) ?_
  refine t_put C h t o hu0 (by decide) (by decide) (by decide) wf_60 fw_60 (k := 0) rfl flw_X11_75 (Or.inr ⟨_, _, _, rfl, rfl⟩) (v := .int 0) rfl rfl ⟨_, rfl, ⟨by decide, by decide⟩⟩ dX11_walk_2 (fun f1 H locs h tf1 of1 hq ha_ hn_ hk_ => ?_)
  have k2 := NGs.pk hNG hk_ (by decide) (by decide)
  have k3 := ha_
  refine lv_aload_n hx hb dX11_walk_5 rfl (lv_at hl 0 rfl) ?_
  refine lv_iload_n hx hb dX11_walk_6 rfl (lv_at hl 1 rfl) ?_
  obtain ⟨_, r4⟩ := t_rec tf1 hu0 (by decide) wf_60
  refine k_i (r_V C h hl (As := [.int u1]) (rest := []) (s_X11_isSet l D G b0 τ f1 tf1 u0 hu0 u1 hu1) r4 (Cn := RX11) (T := TX11) (N := 32) rfl rfl mk_X11_isSet w_1620 w_1622 w_51 w_1623 ⟨Nat.le_of_ble_eq_true rfl, Nat.le_of_ble_eq_true rfl⟩ rfl (Nat.le_of_ble_eq_true rfl) ⟨Nat.le_of_ble_eq_true rfl, Nat.le_of_ble_eq_true rfl⟩ rfl dX11_walk_7) h (fun r5 f6 H locs p7 h => ?_)
  obtain ⟨ir5, tf6, ogf6, cnr5⟩ := p7
  have egf6 := Fr.nil2 ogf6
  subst egf6
  refine lv_if_eq (tgt := 35) hx hb dX11_walk_10 (by decide) (fun c8 => ?_) (fun c8 => ?_)
  · have c9 : r5.toInt = 0 := congrArg Int32.toInt c8
    have i10 : iv r5 0 0 := iv_Q c9 ir5 (iv_k (x := 0) (k := 0) rfl) (by decide)
    refine lv_ldcw (v := -1000000) hx hb hown (hts _ w_1787) dX11_walk_35 ?_
    exact u_iret C h hr hQ (⟨⟨by decide, by decide⟩, tf1, of1, k2⟩) (Nat.le_of_ble_eq_true rfl) (Nat.le_of_ble_eq_true rfl) dX11_walk_38
  · have c11 : r5.toInt ≠ 0 := fun z_ => c8 (Int32.toInt_inj.mp z_)
    have i12 : iv r5 1 1 := iv_Nl c11 ir5 (by decide)
    have i13 := cnr5 c11
    refine lv_iload_n hx hb dX11_walk_13 rfl (lv_at hl 2 rfl) ?_
    refine k_i (r_S C h hl (As := [.int u2]) (rest := []) (s_X11_isFew l D G b0 τ f1 tf1 u2 hu2) mk_X11_isFew w_1820 w_1821 w_1822 ⟨Nat.le_of_ble_eq_true rfl, Nat.le_of_ble_eq_true rfl⟩ rfl (Nat.le_of_ble_eq_true rfl) ⟨Nat.le_of_ble_eq_true rfl, Nat.le_of_ble_eq_true rfl⟩ rfl dX11_walk_14) h (fun r14 f15 H locs p16 h => ?_)
    obtain ⟨ir14, tf15, ogf15, cnr14⟩ := p16
    have egf15 := Fr.nil2 ogf15
    subst egf15
    refine lv_if_eq (tgt := 35) hx hb dX11_walk_17 (by decide) (fun c17 => ?_) (fun c17 => ?_)
    · have c18 : r14.toInt = 0 := congrArg Int32.toInt c17
      have i19 : iv r14 0 0 := iv_Q c18 ir14 (iv_k (x := 0) (k := 0) rfl) (by decide)
      refine lv_ldcw (v := -1000000) hx hb hown (hts _ w_1787) dX11_walk_35 ?_
      exact u_iret C h hr hQ (⟨⟨by decide, by decide⟩, tf1, of1, k2⟩) (Nat.le_of_ble_eq_true rfl) (Nat.le_of_ble_eq_true rfl) dX11_walk_38
    · have c20 : r14.toInt ≠ 0 := fun z_ => c17 (Int32.toInt_inj.mp z_)
      have i21 : iv r14 1 1 := iv_Nl c20 ir14 (by decide)
      have i22 := cnr14 c20
      refine lv_iload_n hx hb dX11_walk_20 rfl (lv_at hl 3 rfl) ?_
      refine lv_iload hx hb dX11_walk_21 (lv_at hl 4 rfl) ?_
      refine k_i (r_S C h hl (As := [.int u3, .int u4]) (rest := []) (s_X11_isFar l D G b0 τ f1 tf1 u3 hu3 u4 hu4) mk_X11_isFar w_1693 w_1694 w_1695 ⟨Nat.le_of_ble_eq_true rfl, Nat.le_of_ble_eq_true rfl⟩ rfl (Nat.le_of_ble_eq_true rfl) ⟨Nat.le_of_ble_eq_true rfl, Nat.le_of_ble_eq_true rfl⟩ rfl dX11_walk_23) h (fun r23 f24 H locs p25 h => ?_)
      obtain ⟨ir23, tf24, ogf24, czr23⟩ := p25
      have egf24 := Fr.nil2 ogf24
      subst egf24
      refine lv_if_ne (tgt := 35) hx hb dX11_walk_26 (by decide) (fun c26 => ?_) (fun c26 => ?_)
      · have c27 : r23.toInt ≠ 0 := fun z_ => c26 (Int32.toInt_inj.mp z_)
        have i28 : iv r23 1 1 := iv_Nl c27 ir23 (by decide)
        refine lv_ldcw (v := -1000000) hx hb hown (hts _ w_1787) dX11_walk_35 ?_
        exact u_iret C h hr hQ (⟨⟨by decide, by decide⟩, tf1, of1, k2⟩) (Nat.le_of_ble_eq_true rfl) (Nat.le_of_ble_eq_true rfl) dX11_walk_38
      · have c29 : r23.toInt = 0 := congrArg Int32.toInt c26
        have i30 : iv r23 0 0 := iv_Q c29 ir23 (iv_k (x := 0) (k := 0) rfl) (by decide)
        obtain ⟨i31, i32⟩ := czr23 c29
        refine lv_iload hx hb dX11_walk_29 (lv_at hl 5 rfl) ?_
        refine lv_iconst (v := -1) hx hb dX11_walk_31 (by decide) ?_
        refine lv_icmp_ge (tgt := 39) hx hb dX11_walk_32 (by decide) (fun c33 => ?_) (fun c33 => ?_)
        · have c34 : (-1) ≤ u5.toInt := Int32.le_iff_toInt_le.mp c33
          have i35 : iv u5 (-1) 2147483647 := iv_Er c34 (iv_k (x := (-1)) (k := (-1)) rfl) hu5 (by decide)
          refine lv_aload_n hx hb dX11_walk_39 rfl (lv_at hl 0 rfl) ?_
          refine lv_iload_n hx hb dX11_walk_40 rfl (lv_at hl 1 rfl) ?_
          refine lv_iload_n hx hb dX11_walk_41 rfl (lv_at hl 2 rfl) ?_
          refine lv_iload_n hx hb dX11_walk_42 rfl (lv_at hl 3 rfl) ?_
          refine lv_iload hx hb dX11_walk_43 (lv_at hl 4 rfl) ?_
          obtain ⟨_, r38⟩ := t_rec tf1 hu0 (by decide) wf_60
          refine k_l (r_V C h hl (As := [.int u1, .int u2, .int u3, .int u4]) (rest := []) (s_X11_walksTo l D G b0 τ f1 tf1 u0 hu0 u1 i13 u2 i22 u3 (iv_w i31 (by decide)) u4 (iv_w i32 (by decide)) k2) r38 (Cn := RX11) (T := TX11) (N := 32) rfl rfl mk_X11_walksTo w_1824 w_1826 w_68 w_1827 ⟨Nat.le_of_ble_eq_true rfl, Nat.le_of_ble_eq_true rfl⟩ rfl (Nat.le_of_ble_eq_true rfl) ⟨Nat.le_of_ble_eq_true rfl, Nat.le_of_ble_eq_true rfl⟩ rfl dX11_walk_45) h (fun r39 f40 H locs p41 h => ?_)
          obtain ⟨tf40, ogf40, ngf40⟩ := p41
          have of40 : Fr [60, 67, 60001, 60013, 60014, 60015] τ f f40 := Fr.tr of1 ogf40 (by decide) (by decide)
          refine lv_lstore (lv' := [(7, .long r39), (0, .ref u0), (1, .int u1), (2, .int u2), (3, .int u3), (4, .int u4), (5, .int u5), (6, .int u6)]) hx hb dX11_walk_48 hl (by decide) rfl (fun ls hl => ?_)
          refine lv_iload hx hb dX11_walk_50 (lv_at hl 6 rfl) ?_
          refine lv_iconst (v := -1) hx hb dX11_walk_52 (by decide) ?_
          refine lv_icmp_ne (tgt := 60) hx hb dX11_walk_53 (by decide) (fun c42 => ?_) (fun c42 => ?_)
          · have c43 : u5.toInt ≠ (-1) := fun z_ => c42 (Int32.toInt_inj.mp z_)
            have i44 : iv u5 0 2147483647 := iv_Nl c43 i35 (by decide)
            refine lv_iload hx hb dX11_walk_60 (lv_at hl 6 rfl) ?_
            refine lv_i2l hx hb dX11_walk_62 rfl (i_topL i44 (fun w47 ew47 mw47 iw47 => ?_))
            refine lv_lload hx hb dX11_walk_63 (lv_at hl 0 rfl) ?_
            refine W.lcmp hx hb dX11_walk_65 (i_topc (fun z48 ez48 mz48 iz48 => ?_))
            refine lv_if_ge (tgt := 83) hx hb dX11_walk_66 (by decide) (fun c49 => ?_) (fun c49 => ?_)
            · have c50 : 0 ≤ z48.toInt := Int32.le_iff_toInt_le.mp c49
              have i51 : iv z48 0 1 := iv_Er c50 (iv_k (x := 0) (k := 0) rfl) iz48 (by decide)
              refine lv_ldcw (v := -1000000) hx hb hown (hts _ w_1787) dX11_walk_83 ?_
              refine lv_goto (tgt := 103) hx hb dX11_walk_86 (by decide) ?_
              exact u_iret C h hr hQ (⟨⟨by decide, by decide⟩, tf40, of40, ngf40⟩) (Nat.le_of_ble_eq_true rfl) (Nat.le_of_ble_eq_true rfl) dX11_walk_103
            · have c52 : z48.toInt < 0 := Int32.lt_iff_toInt_lt.mp (iv_nle c49)
              have i53 : iv z48 (-1) (-1) := iv_Ll c52 iz48 (iv_k (x := 0) (k := 0) rfl) (by decide)
              refine lv_iload hx hb dX11_walk_69 (lv_at hl 7 rfl) ?_
              refine lv_i2l hx hb dX11_walk_71 rfl (i_topL hu6 (fun w54 ew54 mw54 iw54 => ?_))
              refine lv_lconst (v := 0) hx hb dX11_walk_72 (by decide) ?_
              refine lv_iload_n hx hb dX11_walk_73 rfl (lv_at hl 3 rfl) ?_
              refine lv_iconst (v := 1) hx hb dX11_walk_74 (by decide) ?_
              refine i_subk hx hb dX11_walk_75 i22 (k := 1) rfl (lo := (-1)) (hi := 9) (by decide) (fun z55 ez55 mz55 iz55 => ?_)
              refine lv_i2l hx hb dX11_walk_76 rfl (i_topL iz55 (fun w56 ew56 mw56 iw56 => ?_))
              refine k_i (r_S C h hl (As := [.long w54, .long 0, .long w56]) (rest := []) (s_X11_isIn l D G b0 τ f40 tf40 w54 0 w56) mk_X11_isIn w_1624 w_1625 w_1626 ⟨Nat.le_of_ble_eq_true rfl, Nat.le_of_ble_eq_true rfl⟩ rfl (Nat.le_of_ble_eq_true rfl) ⟨Nat.le_of_ble_eq_true rfl, Nat.le_of_ble_eq_true rfl⟩ rfl dX11_walk_77) h (fun r57 f58 H locs p59 h => ?_)
              have n60 : (0 : Int64).toInt = 0 := rfl
              obtain ⟨ir57, tf58, ogf58, cnr57⟩ := p59
              have egf58 := Fr.nil2 ogf58
              subst egf58
              refine lv_if_ne (tgt := 89) hx hb dX11_walk_80 (by decide) (fun c61 => ?_) (fun c61 => ?_)
              · have c62 : r57.toInt ≠ 0 := fun z_ => c61 (Int32.toInt_inj.mp z_)
                have i63 : iv r57 1 1 := iv_Nl c62 ir57 (by decide)
                obtain ⟨i64, i65⟩ := cnr57 c62
                have i66 : iv u6 0 9 := ⟨by omega, by omega⟩
                refine lv_aload_n hx hb dX11_walk_89 rfl (lv_at hl 1 rfl) ?_
                refine lv_iload_n hx hb dX11_walk_90 rfl (lv_at hl 2 rfl) ?_
                refine lv_iload_n hx hb dX11_walk_91 rfl (lv_at hl 3 rfl) ?_
                refine lv_iload_n hx hb dX11_walk_92 rfl (lv_at hl 4 rfl) ?_
                refine lv_iload hx hb dX11_walk_93 (lv_at hl 5 rfl) ?_
                refine lv_iload hx hb dX11_walk_95 (lv_at hl 6 rfl) ?_
                refine lv_i2l hx hb dX11_walk_97 rfl (i_topL i44 (fun w69 ew69 mw69 iw69 => ?_))
                refine lv_iload hx hb dX11_walk_98 (lv_at hl 7 rfl) ?_
                obtain ⟨_, r70⟩ := t_rec tf40 hu0 (by decide) wf_60
                refine k_i (r_V C h hl (As := [.int u1, .int u2, .int u3, .int u4, .long w69, .int u6]) (rest := []) (s_X11_walkStep l D G b0 τ f40 tf40 u0 hu0 u1 i13 u2 i22 u3 (iv_w i31 (by decide)) u4 (iv_w i32 (by decide)) w69 u6 (iv_w i66 (by decide)) ngf40 (by omega)) r70 (Cn := RX11) (T := TX11) (N := 32) rfl rfl mk_X11_walkStep w_1828 w_1830 w_69 w_1831 ⟨Nat.le_of_ble_eq_true rfl, Nat.le_of_ble_eq_true rfl⟩ rfl (Nat.le_of_ble_eq_true rfl) ⟨Nat.le_of_ble_eq_true rfl, Nat.le_of_ble_eq_true rfl⟩ rfl dX11_walk_100) h (fun r71 f72 H locs p73 h => ?_)
                obtain ⟨ir71, tf72, ogf72, ngf72⟩ := p73
                have of72 : Fr [60, 67, 60001, 60013, 60014, 60015] τ f f72 := Fr.tr of40 ogf72 (by decide) (by decide)
                exact u_iret C h hr hQ (⟨(iv_w ir71 (by decide)), tf72, of72, ngf72⟩) (Nat.le_of_ble_eq_true rfl) (Nat.le_of_ble_eq_true rfl) dX11_walk_103
              · have c67 : r57.toInt = 0 := congrArg Int32.toInt c61
                have i68 : iv r57 0 0 := iv_Q c67 ir57 (iv_k (x := 0) (k := 0) rfl) (by decide)
                refine lv_ldcw (v := -1000000) hx hb hown (hts _ w_1787) dX11_walk_83 ?_
                refine lv_goto (tgt := 103) hx hb dX11_walk_86 (by decide) ?_
                exact u_iret C h hr hQ (⟨⟨by decide, by decide⟩, tf40, of40, ngf40⟩) (Nat.le_of_ble_eq_true rfl) (Nat.le_of_ble_eq_true rfl) dX11_walk_103
          · have c45 : u5.toInt = (-1) := congrArg Int32.toInt c42
            have i46 : iv u5 (-1) (-1) := iv_Q c45 i35 (iv_k (x := (-1)) (k := (-1)) rfl) (by decide)
            refine lv_lload hx hb dX11_walk_56 (lv_at hl 0 rfl) ?_
            refine lv_l2i hx hb dX11_walk_58 rfl (i_top (iv_any _) (fun z74 ez74 iz74 => ?_))
            exact u_iret C h hr hQ (⟨iz74, tf40, of40, ngf40⟩) (Nat.le_of_ble_eq_true rfl) (Nat.le_of_ble_eq_true rfl) dX11_walk_59
        · have c36 : u5.toInt < (-1) := Int32.lt_iff_toInt_lt.mp (iv_nle c33)
          have i37 : iv u5 (-2147483648) (-2) := iv_Ll c36 hu5 (iv_k (x := (-1)) (k := (-1)) rfl) (by decide)
          refine lv_ldcw (v := -1000000) hx hb hown (hts _ w_1787) dX11_walk_35 ?_
          exact u_iret C h hr hQ (⟨⟨by decide, by decide⟩, tf1, of1, k2⟩) (Nat.le_of_ble_eq_true rfl) (Nat.le_of_ble_eq_true rfl) dX11_walk_38
abbrev rm_s_X11_drawn : Room := { frames := 5, cells := 0, slots := 0, locals := 146 }
set_option maxRecDepth 100000 in
set_option maxHeartbeats 4000000 in
theorem s_X11_drawn (l : Launch) (D : va_G) (G : Nat → Nat) (b0 : Nat) (τ : Nat → Nat) (f : hM) (t : TI G 9 τ f) (u0 : Nat) (hu0 : τ u0 = 60) (u1 : Int32) (hu1 : iv u1 (-2147483648) 2147483647) (u2 : Int32) (hu2 : iv u2 (-2147483648) 2147483647) (u3 : Int32) (hu3 : iv u3 (-2147483648) 2147483647) (u4 : Int32) (hu4 : iv u4 (-2147483648) 2147483647) (u5 : Int64) (u6 : Int32) (hu6 : iv u6 (-2147483648) 2147483647) (hNG : NGs τ f u0) : mI l yX11_drawn cX11_drawn 12 (.int) rm_s_X11_drawn D G b0 f [.ref u0, .int u1, .int u2, .int u3, .int u4, .long u5, .int u6] (fun r f1 => iv r (-1000000) 8 ∧ TI G 9 τ f1 ∧ Fr [60, 67, 60001, 60013, 60014, 60015] τ f f1 ∧ NGs τ f1 u0) := by
  refine met2 (own := RX11) (by decide) rfl (Nat.le_of_ble_eq_true rfl) ?_
  intro p e s m args below meth c ls Q hQ C hr hini hl h
  have hl : lv_has ls 12 [(0, .ref u0), (1, .int u1), (2, .int u2), (3, .int u3), (4, .int u4), (5, .long u5), (7, .int u6)] := hl
  obtain ⟨hx, hb, hml, hown, hts, hE0, hlk⟩ := id C
  have o := Fr.rf [60, 67, 60001, 60013, 60014, 60015] τ f
  refine lv_aload_n hx hb dX11_drawn_0 rfl (lv_at hl 0 rfl) ?_
  refine lv_iconst (v := 0) hx hb dX11_drawn_1 (by decide) ?_
  refine t_put C h t o hu0 (by decide) (by decide) (by decide) wf_60 fw_60 (k := 0) rfl flw_X11_75 (Or.inr ⟨_, _, _, rfl, rfl⟩) (v := .int 0) rfl rfl ⟨_, rfl, ⟨by decide, by decide⟩⟩ dX11_drawn_2 (fun f1 H locs h tf1 of1 hq ha_ hn_ hk_ => ?_)
  have k2 := NGs.pk hNG hk_ (by decide) (by decide)
  have k3 := ha_
  refine lv_aload_n hx hb dX11_drawn_5 rfl (lv_at hl 0 rfl) ?_
  refine lv_iload_n hx hb dX11_drawn_6 rfl (lv_at hl 1 rfl) ?_
  obtain ⟨_, r4⟩ := t_rec tf1 hu0 (by decide) wf_60
  refine k_i (r_V C h hl (As := [.int u1]) (rest := []) (s_X11_isSet l D G b0 τ f1 tf1 u0 hu0 u1 hu1) r4 (Cn := RX11) (T := TX11) (N := 32) rfl rfl mk_X11_isSet w_1620 w_1622 w_51 w_1623 ⟨Nat.le_of_ble_eq_true rfl, Nat.le_of_ble_eq_true rfl⟩ rfl (Nat.le_of_ble_eq_true rfl) ⟨Nat.le_of_ble_eq_true rfl, Nat.le_of_ble_eq_true rfl⟩ rfl dX11_drawn_7) h (fun r5 f6 H locs p7 h => ?_)
  obtain ⟨ir5, tf6, ogf6, cnr5⟩ := p7
  have egf6 := Fr.nil2 ogf6
  subst egf6
  refine lv_if_eq (tgt := 43) hx hb dX11_drawn_10 (by decide) (fun c8 => ?_) (fun c8 => ?_)
  · have c9 : r5.toInt = 0 := congrArg Int32.toInt c8
    have i10 : iv r5 0 0 := iv_Q c9 ir5 (iv_k (x := 0) (k := 0) rfl) (by decide)
    refine lv_ldcw (v := -1000000) hx hb hown (hts _ w_1787) dX11_drawn_43 ?_
    exact u_iret C h hr hQ (⟨⟨by decide, by decide⟩, tf1, of1, k2⟩) (Nat.le_of_ble_eq_true rfl) (Nat.le_of_ble_eq_true rfl) dX11_drawn_46
  · have c11 : r5.toInt ≠ 0 := fun z_ => c8 (Int32.toInt_inj.mp z_)
    have i12 : iv r5 1 1 := iv_Nl c11 ir5 (by decide)
    have i13 := cnr5 c11
    refine lv_iload_n hx hb dX11_drawn_13 rfl (lv_at hl 2 rfl) ?_
    refine k_i (r_S C h hl (As := [.int u2]) (rest := []) (s_X11_isFew l D G b0 τ f1 tf1 u2 hu2) mk_X11_isFew w_1820 w_1821 w_1822 ⟨Nat.le_of_ble_eq_true rfl, Nat.le_of_ble_eq_true rfl⟩ rfl (Nat.le_of_ble_eq_true rfl) ⟨Nat.le_of_ble_eq_true rfl, Nat.le_of_ble_eq_true rfl⟩ rfl dX11_drawn_14) h (fun r14 f15 H locs p16 h => ?_)
    obtain ⟨ir14, tf15, ogf15, cnr14⟩ := p16
    have egf15 := Fr.nil2 ogf15
    subst egf15
    refine lv_if_eq (tgt := 43) hx hb dX11_drawn_17 (by decide) (fun c17 => ?_) (fun c17 => ?_)
    · have c18 : r14.toInt = 0 := congrArg Int32.toInt c17
      have i19 : iv r14 0 0 := iv_Q c18 ir14 (iv_k (x := 0) (k := 0) rfl) (by decide)
      refine lv_ldcw (v := -1000000) hx hb hown (hts _ w_1787) dX11_drawn_43 ?_
      exact u_iret C h hr hQ (⟨⟨by decide, by decide⟩, tf1, of1, k2⟩) (Nat.le_of_ble_eq_true rfl) (Nat.le_of_ble_eq_true rfl) dX11_drawn_46
    · have c20 : r14.toInt ≠ 0 := fun z_ => c17 (Int32.toInt_inj.mp z_)
      have i21 : iv r14 1 1 := iv_Nl c20 ir14 (by decide)
      have i22 := cnr14 c20
      refine lv_iload_n hx hb dX11_drawn_20 rfl (lv_at hl 3 rfl) ?_
      refine lv_iload hx hb dX11_drawn_21 (lv_at hl 4 rfl) ?_
      refine k_i (r_S C h hl (As := [.int u3, .int u4]) (rest := []) (s_X11_isFar l D G b0 τ f1 tf1 u3 hu3 u4 hu4) mk_X11_isFar w_1693 w_1694 w_1695 ⟨Nat.le_of_ble_eq_true rfl, Nat.le_of_ble_eq_true rfl⟩ rfl (Nat.le_of_ble_eq_true rfl) ⟨Nat.le_of_ble_eq_true rfl, Nat.le_of_ble_eq_true rfl⟩ rfl dX11_drawn_23) h (fun r23 f24 H locs p25 h => ?_)
      obtain ⟨ir23, tf24, ogf24, czr23⟩ := p25
      have egf24 := Fr.nil2 ogf24
      subst egf24
      refine lv_if_ne (tgt := 43) hx hb dX11_drawn_26 (by decide) (fun c26 => ?_) (fun c26 => ?_)
      · have c27 : r23.toInt ≠ 0 := fun z_ => c26 (Int32.toInt_inj.mp z_)
        have i28 : iv r23 1 1 := iv_Nl c27 ir23 (by decide)
        refine lv_ldcw (v := -1000000) hx hb hown (hts _ w_1787) dX11_drawn_43 ?_
        exact u_iret C h hr hQ (⟨⟨by decide, by decide⟩, tf1, of1, k2⟩) (Nat.le_of_ble_eq_true rfl) (Nat.le_of_ble_eq_true rfl) dX11_drawn_46
      · have c29 : r23.toInt = 0 := congrArg Int32.toInt c26
        have i30 : iv r23 0 0 := iv_Q c29 ir23 (iv_k (x := 0) (k := 0) rfl) (by decide)
        obtain ⟨i31, i32⟩ := czr23 c29
        refine lv_iload hx hb dX11_drawn_29 (lv_at hl 6 rfl) ?_
        refine lv_i2l hx hb dX11_drawn_31 rfl (i_topL hu6 (fun w33 ew33 mw33 iw33 => ?_))
        refine lv_lconst (v := 0) hx hb dX11_drawn_32 (by decide) ?_
        refine lv_iload_n hx hb dX11_drawn_33 rfl (lv_at hl 2 rfl) ?_
        refine lv_iconst (v := 1) hx hb dX11_drawn_34 (by decide) ?_
        refine i_subk hx hb dX11_drawn_35 i22 (k := 1) rfl (lo := (-1)) (hi := 9) (by decide) (fun z34 ez34 mz34 iz34 => ?_)
        refine lv_i2l hx hb dX11_drawn_36 rfl (i_topL iz34 (fun w35 ew35 mw35 iw35 => ?_))
        refine k_i (r_S C h hl (As := [.long w33, .long 0, .long w35]) (rest := []) (s_X11_isIn l D G b0 τ f1 tf1 w33 0 w35) mk_X11_isIn w_1624 w_1625 w_1626 ⟨Nat.le_of_ble_eq_true rfl, Nat.le_of_ble_eq_true rfl⟩ rfl (Nat.le_of_ble_eq_true rfl) ⟨Nat.le_of_ble_eq_true rfl, Nat.le_of_ble_eq_true rfl⟩ rfl dX11_drawn_37) h (fun r36 f37 H locs p38 h => ?_)
        have n39 : (0 : Int64).toInt = 0 := rfl
        obtain ⟨ir36, tf37, ogf37, cnr36⟩ := p38
        have egf37 := Fr.nil2 ogf37
        subst egf37
        refine lv_if_ne (tgt := 47) hx hb dX11_drawn_40 (by decide) (fun c40 => ?_) (fun c40 => ?_)
        · have c41 : r36.toInt ≠ 0 := fun z_ => c40 (Int32.toInt_inj.mp z_)
          have i42 : iv r36 1 1 := iv_Nl c41 ir36 (by decide)
          obtain ⟨i43, i44⟩ := cnr36 c41
          have i45 : iv u6 0 9 := ⟨by omega, by omega⟩
          refine lv_aload_n hx hb dX11_drawn_47 rfl (lv_at hl 0 rfl) ?_
          refine lv_iload_n hx hb dX11_drawn_48 rfl (lv_at hl 1 rfl) ?_
          refine lv_iload_n hx hb dX11_drawn_49 rfl (lv_at hl 2 rfl) ?_
          refine lv_iload_n hx hb dX11_drawn_50 rfl (lv_at hl 3 rfl) ?_
          refine lv_iload hx hb dX11_drawn_51 (lv_at hl 4 rfl) ?_
          obtain ⟨_, r48⟩ := t_rec tf1 hu0 (by decide) wf_60
          refine k_l (r_V C h hl (As := [.int u1, .int u2, .int u3, .int u4]) (rest := []) (s_X11_walksTo l D G b0 τ f1 tf1 u0 hu0 u1 i13 u2 i22 u3 (iv_w i31 (by decide)) u4 (iv_w i32 (by decide)) k2) r48 (Cn := RX11) (T := TX11) (N := 32) rfl rfl mk_X11_walksTo w_1824 w_1826 w_68 w_1827 ⟨Nat.le_of_ble_eq_true rfl, Nat.le_of_ble_eq_true rfl⟩ rfl (Nat.le_of_ble_eq_true rfl) ⟨Nat.le_of_ble_eq_true rfl, Nat.le_of_ble_eq_true rfl⟩ rfl dX11_drawn_53) h (fun r49 f50 H locs p51 h => ?_)
          obtain ⟨tf50, ogf50, ngf50⟩ := p51
          have of50 : Fr [60, 67, 60001, 60013, 60014, 60015] τ f f50 := Fr.tr of1 ogf50 (by decide) (by decide)
          refine lv_lstore (lv' := [(8, .long r49), (0, .ref u0), (1, .int u1), (2, .int u2), (3, .int u3), (4, .int u4), (5, .long u5), (7, .int u6)]) hx hb dX11_drawn_56 hl (by decide) rfl (fun ls hl => ?_)
          refine lv_lload hx hb dX11_drawn_58 (lv_at hl 0 rfl) ?_
          refine lv_lconst (v := 0) hx hb dX11_drawn_60 (by decide) ?_
          refine W.lcmp hx hb dX11_drawn_61 (i_topc (fun z52 ez52 mz52 iz52 => ?_))
          have n53 : (0 : Int64).toInt = 0 := rfl
          refine lv_if_ne (tgt := 69) hx hb dX11_drawn_62 (by decide) (fun c54 => ?_) (fun c54 => ?_)
          · have c55 : z52.toInt ≠ 0 := fun z_ => c54 (Int32.toInt_inj.mp z_)
            refine lv_lload hx hb dX11_drawn_69 (lv_at hl 6 rfl) ?_
            refine lv_ldc2 (v := 6364136223846793005) hx hb hown (hts _ w_1840) dX11_drawn_71 ?_
            refine lv_lmul hx hb dX11_drawn_74 (lv_topl (fun w58 ew58 => ?_))
            refine lv_ldc2 (v := 1442695040888963407) hx hb hown (hts _ w_1841) dX11_drawn_75 ?_
            refine lv_ladd hx hb dX11_drawn_78 (lv_topl (fun w59 ew59 => ?_))
            refine lv_bipush (v := 33) hx hb dX11_drawn_79 (by decide) ?_
            refine lv_lushr hx hb dX11_drawn_81 rfl (lv_topl (fun w60 ew60 => ?_))
            refine lv_lstore (lv' := [(10, .long w60), (8, .long r49), (0, .ref u0), (1, .int u1), (2, .int u2), (3, .int u3), (4, .int u4), (5, .long u5), (7, .int u6)]) hx hb dX11_drawn_82 hl (by decide) rfl (fun ls hl => ?_)
            refine lv_aload_n hx hb dX11_drawn_84 rfl (lv_at hl 2 rfl) ?_
            refine lv_iload_n hx hb dX11_drawn_85 rfl (lv_at hl 3 rfl) ?_
            refine lv_iload_n hx hb dX11_drawn_86 rfl (lv_at hl 4 rfl) ?_
            refine lv_iload_n hx hb dX11_drawn_87 rfl (lv_at hl 5 rfl) ?_
            refine lv_iload hx hb dX11_drawn_88 (lv_at hl 6 rfl) ?_
            refine lv_lload hx hb dX11_drawn_90 (lv_at hl 0 rfl) ?_
            refine lv_lload hx hb dX11_drawn_92 (lv_at hl 1 rfl) ?_
            refine lv_lrem hx hb dX11_drawn_94 (lnz_o (by omega)) (lv_topl (fun w61 ew61 => ?_))
            refine lv_iload hx hb dX11_drawn_95 (lv_at hl 8 rfl) ?_
            obtain ⟨_, r62⟩ := t_rec tf50 hu0 (by decide) wf_60
            refine k_i (r_V C h hl (As := [.int u1, .int u2, .int u3, .int u4, .long w61, .int u6]) (rest := []) (s_X11_walkStep l D G b0 τ f50 tf50 u0 hu0 u1 i13 u2 i22 u3 (iv_w i31 (by decide)) u4 (iv_w i32 (by decide)) w61 u6 (iv_w i45 (by decide)) ngf50 (by omega)) r62 (Cn := RX11) (T := TX11) (N := 32) rfl rfl mk_X11_walkStep w_1828 w_1830 w_69 w_1831 ⟨Nat.le_of_ble_eq_true rfl, Nat.le_of_ble_eq_true rfl⟩ rfl (Nat.le_of_ble_eq_true rfl) ⟨Nat.le_of_ble_eq_true rfl, Nat.le_of_ble_eq_true rfl⟩ rfl dX11_drawn_97) h (fun r63 f64 H locs p65 h => ?_)
            obtain ⟨ir63, tf64, ogf64, ngf64⟩ := p65
            have of64 : Fr [60, 67, 60001, 60013, 60014, 60015] τ f f64 := Fr.tr of50 ogf64 (by decide) (by decide)
            exact u_iret C h hr hQ (⟨(iv_w ir63 (by decide)), tf64, of64, ngf64⟩) (Nat.le_of_ble_eq_true rfl) (Nat.le_of_ble_eq_true rfl) dX11_drawn_100
          · have c56 : z52.toInt = 0 := congrArg Int32.toInt c54
            have i57 : iv z52 0 0 := iv_Q c56 iz52 (iv_k (x := 0) (k := 0) rfl) (by decide)
            refine lv_ldcw (v := -1000000) hx hb hown (hts _ w_1787) dX11_drawn_65 ?_
            exact u_iret C h hr hQ (⟨⟨by decide, by decide⟩, tf50, of50, ngf50⟩) (Nat.le_of_ble_eq_true rfl) (Nat.le_of_ble_eq_true rfl) dX11_drawn_68
        · have c46 : r36.toInt = 0 := congrArg Int32.toInt c40
          have i47 : iv r36 0 0 := iv_Q c46 ir36 (iv_k (x := 0) (k := 0) rfl) (by decide)
          refine lv_ldcw (v := -1000000) hx hb hown (hts _ w_1787) dX11_drawn_43 ?_
          exact u_iret C h hr hQ (⟨⟨by decide, by decide⟩, tf1, of1, k2⟩) (Nat.le_of_ble_eq_true rfl) (Nat.le_of_ble_eq_true rfl) dX11_drawn_46
