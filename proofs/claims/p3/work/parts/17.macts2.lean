theorem dX11_mirror_0 : decode cX11_mirror 0 = .ok (.aload_n 0, 1) := by decide +kernel
theorem dX11_mirror_1 : decode cX11_mirror 1 = .ok (.iconst 0, 1) := by decide +kernel
theorem dX11_mirror_2 : decode cX11_mirror 2 = .ok (.putfield 75, 3) := by decide +kernel
theorem dX11_mirror_5 : decode cX11_mirror 5 = .ok (.aload_n 0, 1) := by decide +kernel
theorem dX11_mirror_6 : decode cX11_mirror 6 = .ok (.iload_n 1, 1) := by decide +kernel
theorem dX11_mirror_7 : decode cX11_mirror 7 = .ok (.invokevirtual 171, 3) := by decide +kernel
theorem dX11_mirror_10 : decode cX11_mirror 10 = .ok (.ifCond .ne 9, 3) := by decide +kernel
theorem dX11_mirror_19 : decode cX11_mirror 19 = .ok (.aload_n 0, 1) := by decide +kernel
theorem dX11_mirror_20 : decode cX11_mirror 20 = .ok (.getfield 17, 3) := by decide +kernel
theorem dX11_mirror_23 : decode cX11_mirror 23 = .ok (.bipush 80, 2) := by decide +kernel
theorem dX11_mirror_25 : decode cX11_mirror 25 = .ok (.iaload, 1) := by decide +kernel
theorem dX11_mirror_26 : decode cX11_mirror 26 = .ok (.bipush 8, 2) := by decide +kernel
theorem dX11_mirror_28 : decode cX11_mirror 28 = .ok (.if_icmp .ne 9, 3) := by decide +kernel
theorem dX11_mirror_37 : decode cX11_mirror 37 = .ok (.iconst 0, 1) := by decide +kernel
theorem dX11_mirror_38 : decode cX11_mirror 38 = .ok (.istore_n 2, 1) := by decide +kernel
theorem dX11_mirror_31 : decode cX11_mirror 31 = .ok (.aload_n 0, 1) := by decide +kernel
theorem dX11_mirror_32 : decode cX11_mirror 32 = .ok (.iconst 2, 1) := by decide +kernel
theorem dX11_mirror_33 : decode cX11_mirror 33 = .ok (.invokevirtual 165, 3) := by decide +kernel
theorem dX11_mirror_13 : decode cX11_mirror 13 = .ok (.aload_n 0, 1) := by decide +kernel
theorem dX11_mirror_14 : decode cX11_mirror 14 = .ok (.iconst 0, 1) := by decide +kernel
theorem dX11_mirror_15 : decode cX11_mirror 15 = .ok (.invokevirtual 165, 3) := by decide +kernel
theorem dX11_mirror_39 : decode cX11_mirror 39 = .ok (.iload_n 2, 1) := by decide +kernel
theorem dX11_mirror_40 : decode cX11_mirror 40 = .ok (.bipush 8, 2) := by decide +kernel
theorem dX11_mirror_42 : decode cX11_mirror 42 = .ok (.if_icmp .ge 27, 3) := by decide +kernel
theorem dX11_mirror_45 : decode cX11_mirror 45 = .ok (.aload_n 0, 1) := by decide +kernel
theorem dX11_mirror_46 : decode cX11_mirror 46 = .ok (.getfield 13, 3) := by decide +kernel
theorem dX11_mirror_49 : decode cX11_mirror 49 = .ok (.bipush 10, 2) := by decide +kernel
theorem dX11_mirror_51 : decode cX11_mirror 51 = .ok (.iload_n 2, 1) := by decide +kernel
theorem dX11_mirror_52 : decode cX11_mirror 52 = .ok (.isub, 1) := by decide +kernel
theorem dX11_mirror_53 : decode cX11_mirror 53 = .ok (.bipush 8, 2) := by decide +kernel
theorem dX11_mirror_55 : decode cX11_mirror 55 = .ok (.irem, 1) := by decide +kernel
theorem dX11_mirror_56 : decode cX11_mirror 56 = .ok (.aload_n 0, 1) := by decide +kernel
theorem dX11_mirror_57 : decode cX11_mirror 57 = .ok (.iload_n 1, 1) := by decide +kernel
theorem dX11_mirror_58 : decode cX11_mirror 58 = .ok (.iload_n 2, 1) := by decide +kernel
theorem dX11_mirror_59 : decode cX11_mirror 59 = .ok (.invokevirtual 175, 3) := by decide +kernel
theorem dX11_mirror_62 : decode cX11_mirror 62 = .ok (.iastore, 1) := by decide +kernel
theorem dX11_mirror_63 : decode cX11_mirror 63 = .ok (.iinc 2 1, 3) := by decide +kernel
theorem dX11_mirror_66 : decode cX11_mirror 66 = .ok (.goto (-27), 3) := by decide +kernel
theorem dX11_mirror_69 : decode cX11_mirror 69 = .ok (.aload_n 0, 1) := by decide +kernel
theorem dX11_mirror_70 : decode cX11_mirror 70 = .ok (.getfield 13, 3) := by decide +kernel
theorem dX11_mirror_73 : decode cX11_mirror 73 = .ok (.bipush 8, 2) := by decide +kernel
theorem dX11_mirror_75 : decode cX11_mirror 75 = .ok (.aload_n 0, 1) := by decide +kernel
theorem dX11_mirror_76 : decode cX11_mirror 76 = .ok (.iload_n 1, 1) := by decide +kernel
theorem dX11_mirror_77 : decode cX11_mirror 77 = .ok (.bipush 9, 2) := by decide +kernel
theorem dX11_mirror_79 : decode cX11_mirror 79 = .ok (.invokevirtual 175, 3) := by decide +kernel
theorem dX11_mirror_82 : decode cX11_mirror 82 = .ok (.iastore, 1) := by decide +kernel
theorem dX11_mirror_83 : decode cX11_mirror 83 = .ok (.aload_n 0, 1) := by decide +kernel
theorem dX11_mirror_84 : decode cX11_mirror 84 = .ok (.getfield 13, 3) := by decide +kernel
theorem dX11_mirror_87 : decode cX11_mirror 87 = .ok (.bipush 9, 2) := by decide +kernel
theorem dX11_mirror_89 : decode cX11_mirror 89 = .ok (.aload_n 0, 1) := by decide +kernel
theorem dX11_mirror_90 : decode cX11_mirror 90 = .ok (.iload_n 1, 1) := by decide +kernel
theorem dX11_mirror_91 : decode cX11_mirror 91 = .ok (.bipush 8, 2) := by decide +kernel
theorem dX11_mirror_93 : decode cX11_mirror 93 = .ok (.invokevirtual 175, 3) := by decide +kernel
theorem dX11_mirror_96 : decode cX11_mirror 96 = .ok (.iastore, 1) := by decide +kernel
theorem dX11_mirror_97 : decode cX11_mirror 97 = .ok (.aload_n 0, 1) := by decide +kernel
theorem dX11_mirror_98 : decode cX11_mirror 98 = .ok (.invokevirtual 168, 3) := by decide +kernel
theorem w_1608 : Cond.methodLink "QuarterWalksModel" 168 yX11_comes ∈ wAll := wIn 1608 (by decide +kernel) (by decide +kernel)
theorem w_49 : Cond.selects yX11_comes.cls yX11_comes yX11_comes ∈ wAll := wIn 49 (by decide +kernel) (by decide +kernel)
theorem mk_X11_comes : mk yX11_comes 0 := ⟨by decide +kernel, w_110⟩
theorem w_1610 : Cond.instanceMethod yX11_comes ∈ wAll := wIn 1610 (by decide +kernel) (by decide +kernel)
theorem w_1611 : Cond.code yX11_comes cX11_comes 2 (some .int) ∈ wAll := wIn 1611 (by decide +kernel) (by decide +kernel)
theorem dX11_mirror_101 : decode cX11_mirror 101 = .ok (.ireturn, 1) := by decide +kernel
theorem dX11_mirror_36 : decode cX11_mirror 36 = .ok (.ireturn, 1) := by decide +kernel
theorem dX11_mirror_18 : decode cX11_mirror 18 = .ok (.ireturn, 1) := by decide +kernel
theorem dX11_turn_0 : decode cX11_turn 0 = .ok (.aload_n 0, 1) := by decide +kernel
theorem dX11_turn_1 : decode cX11_turn 1 = .ok (.iconst 0, 1) := by decide +kernel
theorem dX11_turn_2 : decode cX11_turn 2 = .ok (.putfield 75, 3) := by decide +kernel
theorem dX11_turn_5 : decode cX11_turn 5 = .ok (.aload_n 0, 1) := by decide +kernel
theorem dX11_turn_6 : decode cX11_turn 6 = .ok (.iload_n 1, 1) := by decide +kernel
theorem dX11_turn_7 : decode cX11_turn 7 = .ok (.invokevirtual 171, 3) := by decide +kernel
theorem dX11_turn_10 : decode cX11_turn 10 = .ok (.ifCond .ne 9, 3) := by decide +kernel
theorem dX11_turn_19 : decode cX11_turn 19 = .ok (.aload_n 0, 1) := by decide +kernel
theorem dX11_turn_20 : decode cX11_turn 20 = .ok (.getfield 17, 3) := by decide +kernel
theorem dX11_turn_23 : decode cX11_turn 23 = .ok (.bipush 80, 2) := by decide +kernel
theorem dX11_turn_25 : decode cX11_turn 25 = .ok (.iaload, 1) := by decide +kernel
theorem dX11_turn_26 : decode cX11_turn 26 = .ok (.bipush 8, 2) := by decide +kernel
theorem dX11_turn_28 : decode cX11_turn 28 = .ok (.if_icmp .ne 9, 3) := by decide +kernel
theorem dX11_turn_37 : decode cX11_turn 37 = .ok (.iconst 0, 1) := by decide +kernel
theorem dX11_turn_38 : decode cX11_turn 38 = .ok (.istore_n 2, 1) := by decide +kernel
theorem dX11_turn_31 : decode cX11_turn 31 = .ok (.aload_n 0, 1) := by decide +kernel
theorem dX11_turn_32 : decode cX11_turn 32 = .ok (.iconst 2, 1) := by decide +kernel
theorem dX11_turn_33 : decode cX11_turn 33 = .ok (.invokevirtual 165, 3) := by decide +kernel
theorem dX11_turn_13 : decode cX11_turn 13 = .ok (.aload_n 0, 1) := by decide +kernel
theorem dX11_turn_14 : decode cX11_turn 14 = .ok (.iconst 0, 1) := by decide +kernel
theorem dX11_turn_15 : decode cX11_turn 15 = .ok (.invokevirtual 165, 3) := by decide +kernel
theorem dX11_turn_39 : decode cX11_turn 39 = .ok (.iload_n 2, 1) := by decide +kernel
theorem dX11_turn_40 : decode cX11_turn 40 = .ok (.bipush 8, 2) := by decide +kernel
theorem dX11_turn_42 : decode cX11_turn 42 = .ok (.if_icmp .ge 26, 3) := by decide +kernel
theorem dX11_turn_45 : decode cX11_turn 45 = .ok (.aload_n 0, 1) := by decide +kernel
theorem dX11_turn_46 : decode cX11_turn 46 = .ok (.getfield 13, 3) := by decide +kernel
theorem dX11_turn_49 : decode cX11_turn 49 = .ok (.iload_n 2, 1) := by decide +kernel
theorem dX11_turn_50 : decode cX11_turn 50 = .ok (.iconst 4, 1) := by decide +kernel
theorem dX11_turn_51 : decode cX11_turn 51 = .ok (.iadd, 1) := by decide +kernel
theorem dX11_turn_52 : decode cX11_turn 52 = .ok (.bipush 8, 2) := by decide +kernel
theorem dX11_turn_54 : decode cX11_turn 54 = .ok (.irem, 1) := by decide +kernel
theorem dX11_turn_55 : decode cX11_turn 55 = .ok (.aload_n 0, 1) := by decide +kernel
theorem dX11_turn_56 : decode cX11_turn 56 = .ok (.iload_n 1, 1) := by decide +kernel
theorem dX11_turn_57 : decode cX11_turn 57 = .ok (.iload_n 2, 1) := by decide +kernel
theorem dX11_turn_58 : decode cX11_turn 58 = .ok (.invokevirtual 175, 3) := by decide +kernel
theorem dX11_turn_61 : decode cX11_turn 61 = .ok (.iastore, 1) := by decide +kernel
theorem dX11_turn_62 : decode cX11_turn 62 = .ok (.iinc 2 1, 3) := by decide +kernel
theorem dX11_turn_65 : decode cX11_turn 65 = .ok (.goto (-26), 3) := by decide +kernel
theorem dX11_turn_68 : decode cX11_turn 68 = .ok (.aload_n 0, 1) := by decide +kernel
theorem dX11_turn_69 : decode cX11_turn 69 = .ok (.getfield 13, 3) := by decide +kernel
theorem dX11_turn_72 : decode cX11_turn 72 = .ok (.bipush 8, 2) := by decide +kernel
theorem dX11_turn_74 : decode cX11_turn 74 = .ok (.aload_n 0, 1) := by decide +kernel
theorem dX11_turn_75 : decode cX11_turn 75 = .ok (.iload_n 1, 1) := by decide +kernel
theorem dX11_turn_76 : decode cX11_turn 76 = .ok (.bipush 8, 2) := by decide +kernel
theorem dX11_turn_78 : decode cX11_turn 78 = .ok (.invokevirtual 175, 3) := by decide +kernel
theorem dX11_turn_81 : decode cX11_turn 81 = .ok (.iastore, 1) := by decide +kernel
theorem dX11_turn_82 : decode cX11_turn 82 = .ok (.aload_n 0, 1) := by decide +kernel
theorem dX11_turn_83 : decode cX11_turn 83 = .ok (.getfield 13, 3) := by decide +kernel
theorem dX11_turn_86 : decode cX11_turn 86 = .ok (.bipush 9, 2) := by decide +kernel
theorem dX11_turn_88 : decode cX11_turn 88 = .ok (.aload_n 0, 1) := by decide +kernel
theorem dX11_turn_89 : decode cX11_turn 89 = .ok (.iload_n 1, 1) := by decide +kernel
theorem dX11_turn_90 : decode cX11_turn 90 = .ok (.bipush 9, 2) := by decide +kernel
theorem dX11_turn_92 : decode cX11_turn 92 = .ok (.invokevirtual 175, 3) := by decide +kernel
theorem dX11_turn_95 : decode cX11_turn 95 = .ok (.iastore, 1) := by decide +kernel
theorem dX11_turn_96 : decode cX11_turn 96 = .ok (.aload_n 0, 1) := by decide +kernel
theorem dX11_turn_97 : decode cX11_turn 97 = .ok (.invokevirtual 168, 3) := by decide +kernel
theorem dX11_turn_100 : decode cX11_turn 100 = .ok (.ireturn, 1) := by decide +kernel
theorem dX11_turn_36 : decode cX11_turn 36 = .ok (.ireturn, 1) := by decide +kernel
theorem dX11_turn_18 : decode cX11_turn 18 = .ok (.ireturn, 1) := by decide +kernel
theorem dX11_join_0 : decode cX11_join 0 = .ok (.aload_n 0, 1) := by decide +kernel
theorem dX11_join_1 : decode cX11_join 1 = .ok (.iconst 0, 1) := by decide +kernel
theorem dX11_join_2 : decode cX11_join 2 = .ok (.putfield 75, 3) := by decide +kernel
theorem dX11_join_5 : decode cX11_join 5 = .ok (.aload_n 0, 1) := by decide +kernel
theorem dX11_join_6 : decode cX11_join 6 = .ok (.iload_n 1, 1) := by decide +kernel
theorem dX11_join_7 : decode cX11_join 7 = .ok (.invokevirtual 171, 3) := by decide +kernel
theorem dX11_join_10 : decode cX11_join 10 = .ok (.ifCond .eq 11, 3) := by decide +kernel
theorem dX11_join_21 : decode cX11_join 21 = .ok (.aload_n 0, 1) := by decide +kernel
theorem dX11_join_22 : decode cX11_join 22 = .ok (.iconst 0, 1) := by decide +kernel
theorem dX11_join_23 : decode cX11_join 23 = .ok (.invokevirtual 165, 3) := by decide +kernel
theorem dX11_join_13 : decode cX11_join 13 = .ok (.aload_n 0, 1) := by decide +kernel
theorem dX11_join_14 : decode cX11_join 14 = .ok (.iload_n 2, 1) := by decide +kernel
theorem dX11_join_15 : decode cX11_join 15 = .ok (.invokevirtual 171, 3) := by decide +kernel
theorem dX11_join_18 : decode cX11_join 18 = .ok (.ifCond .ne 9, 3) := by decide +kernel
theorem dX11_join_27 : decode cX11_join 27 = .ok (.iconst 0, 1) := by decide +kernel
theorem dX11_join_28 : decode cX11_join 28 = .ok (.istore_n 3, 1) := by decide +kernel
theorem dX11_join_29 : decode cX11_join 29 = .ok (.iload_n 3, 1) := by decide +kernel
theorem dX11_join_30 : decode cX11_join 30 = .ok (.bipush 8, 2) := by decide +kernel
theorem dX11_join_32 : decode cX11_join 32 = .ok (.if_icmp .ge 45, 3) := by decide +kernel
theorem dX11_join_35 : decode cX11_join 35 = .ok (.aload_n 0, 1) := by decide +kernel
theorem dX11_join_36 : decode cX11_join 36 = .ok (.getfield 13, 3) := by decide +kernel
theorem dX11_join_39 : decode cX11_join 39 = .ok (.iload_n 3, 1) := by decide +kernel
theorem dX11_join_40 : decode cX11_join 40 = .ok (.aload_n 0, 1) := by decide +kernel
theorem dX11_join_41 : decode cX11_join 41 = .ok (.iload_n 1, 1) := by decide +kernel
theorem dX11_join_42 : decode cX11_join 42 = .ok (.iload_n 3, 1) := by decide +kernel
theorem dX11_join_43 : decode cX11_join 43 = .ok (.invokevirtual 175, 3) := by decide +kernel
theorem dX11_join_46 : decode cX11_join 46 = .ok (.aload_n 0, 1) := by decide +kernel
theorem dX11_join_47 : decode cX11_join 47 = .ok (.iload_n 2, 1) := by decide +kernel
theorem dX11_join_48 : decode cX11_join 48 = .ok (.iload_n 3, 1) := by decide +kernel
theorem dX11_join_49 : decode cX11_join 49 = .ok (.invokevirtual 175, 3) := by decide +kernel
theorem dX11_join_52 : decode cX11_join 52 = .ok (.iadd, 1) := by decide +kernel
theorem dX11_join_53 : decode cX11_join 53 = .ok (.iastore, 1) := by decide +kernel
theorem dX11_join_54 : decode cX11_join 54 = .ok (.aload_n 0, 1) := by decide +kernel
theorem dX11_join_55 : decode cX11_join 55 = .ok (.getfield 13, 3) := by decide +kernel
theorem dX11_join_58 : decode cX11_join 58 = .ok (.iload_n 3, 1) := by decide +kernel
theorem dX11_join_59 : decode cX11_join 59 = .ok (.iaload, 1) := by decide +kernel
theorem dX11_join_60 : decode cX11_join 60 = .ok (.bipush 9, 2) := by decide +kernel
theorem dX11_join_62 : decode cX11_join 62 = .ok (.if_icmp .le 9, 3) := by decide +kernel
theorem dX11_join_71 : decode cX11_join 71 = .ok (.iinc 3 1, 3) := by decide +kernel
theorem dX11_join_74 : decode cX11_join 74 = .ok (.goto (-45), 3) := by decide +kernel
theorem dX11_join_65 : decode cX11_join 65 = .ok (.aload_n 0, 1) := by decide +kernel
theorem dX11_join_66 : decode cX11_join 66 = .ok (.iconst 1, 1) := by decide +kernel
theorem dX11_join_67 : decode cX11_join 67 = .ok (.invokevirtual 165, 3) := by decide +kernel
theorem dX11_join_77 : decode cX11_join 77 = .ok (.aload_n 0, 1) := by decide +kernel
theorem dX11_join_78 : decode cX11_join 78 = .ok (.getfield 17, 3) := by decide +kernel
theorem dX11_join_81 : decode cX11_join 81 = .ok (.bipush 80, 2) := by decide +kernel
theorem dX11_join_83 : decode cX11_join 83 = .ok (.iaload, 1) := by decide +kernel
theorem dX11_join_84 : decode cX11_join 84 = .ok (.bipush 8, 2) := by decide +kernel
theorem dX11_join_86 : decode cX11_join 86 = .ok (.if_icmp .ne 9, 3) := by decide +kernel
theorem dX11_join_95 : decode cX11_join 95 = .ok (.aload_n 0, 1) := by decide +kernel
theorem dX11_join_96 : decode cX11_join 96 = .ok (.getfield 13, 3) := by decide +kernel
theorem dX11_join_99 : decode cX11_join 99 = .ok (.bipush 8, 2) := by decide +kernel
theorem dX11_join_101 : decode cX11_join 101 = .ok (.aload_n 0, 1) := by decide +kernel
theorem dX11_join_102 : decode cX11_join 102 = .ok (.iload_n 1, 1) := by decide +kernel
theorem dX11_join_103 : decode cX11_join 103 = .ok (.bipush 8, 2) := by decide +kernel
theorem dX11_join_105 : decode cX11_join 105 = .ok (.invokevirtual 175, 3) := by decide +kernel
theorem dX11_join_108 : decode cX11_join 108 = .ok (.iastore, 1) := by decide +kernel
theorem dX11_join_109 : decode cX11_join 109 = .ok (.aload_n 0, 1) := by decide +kernel
theorem dX11_join_110 : decode cX11_join 110 = .ok (.getfield 13, 3) := by decide +kernel
theorem dX11_join_113 : decode cX11_join 113 = .ok (.bipush 9, 2) := by decide +kernel
theorem dX11_join_115 : decode cX11_join 115 = .ok (.aload_n 0, 1) := by decide +kernel
theorem dX11_join_116 : decode cX11_join 116 = .ok (.iload_n 1, 1) := by decide +kernel
theorem dX11_join_117 : decode cX11_join 117 = .ok (.bipush 9, 2) := by decide +kernel
theorem dX11_join_119 : decode cX11_join 119 = .ok (.invokevirtual 175, 3) := by decide +kernel
theorem dX11_join_122 : decode cX11_join 122 = .ok (.iastore, 1) := by decide +kernel
theorem dX11_join_123 : decode cX11_join 123 = .ok (.aload_n 0, 1) := by decide +kernel
theorem dX11_join_124 : decode cX11_join 124 = .ok (.invokevirtual 168, 3) := by decide +kernel
theorem dX11_join_89 : decode cX11_join 89 = .ok (.aload_n 0, 1) := by decide +kernel
theorem dX11_join_90 : decode cX11_join 90 = .ok (.iconst 2, 1) := by decide +kernel
theorem dX11_join_91 : decode cX11_join 91 = .ok (.invokevirtual 165, 3) := by decide +kernel
theorem dX11_join_127 : decode cX11_join 127 = .ok (.ireturn, 1) := by decide +kernel
theorem dX11_join_94 : decode cX11_join 94 = .ok (.ireturn, 1) := by decide +kernel
theorem dX11_join_70 : decode cX11_join 70 = .ok (.ireturn, 1) := by decide +kernel
theorem dX11_join_26 : decode cX11_join 26 = .ok (.ireturn, 1) := by decide +kernel
theorem dX11_undo_0 : decode cX11_undo 0 = .ok (.aload_n 0, 1) := by decide +kernel
theorem dX11_undo_1 : decode cX11_undo 1 = .ok (.iconst 0, 1) := by decide +kernel
theorem dX11_undo_2 : decode cX11_undo 2 = .ok (.putfield 75, 3) := by decide +kernel
theorem dX11_undo_5 : decode cX11_undo 5 = .ok (.aload_n 0, 1) := by decide +kernel
theorem dX11_undo_6 : decode cX11_undo 6 = .ok (.getfield 155, 3) := by decide +kernel
theorem dX11_undo_9 : decode cX11_undo 9 = .ok (.ifCond .ne 5, 3) := by decide +kernel
theorem dX11_undo_14 : decode cX11_undo 14 = .ok (.aload_n 0, 1) := by decide +kernel
theorem dX11_undo_15 : decode cX11_undo 15 = .ok (.dup, 1) := by decide +kernel
theorem dX11_undo_16 : decode cX11_undo 16 = .ok (.getfield 155, 3) := by decide +kernel
theorem dX11_undo_19 : decode cX11_undo 19 = .ok (.iconst 1, 1) := by decide +kernel
theorem dX11_undo_20 : decode cX11_undo 20 = .ok (.isub, 1) := by decide +kernel
theorem dX11_undo_21 : decode cX11_undo 21 = .ok (.putfield 155, 3) := by decide +kernel
theorem dX11_undo_24 : decode cX11_undo 24 = .ok (.iconst 0, 1) := by decide +kernel
theorem dX11_undo_25 : decode cX11_undo 25 = .ok (.istore_n 1, 1) := by decide +kernel
theorem dX11_undo_12 : decode cX11_undo 12 = .ok (.iconst (-1), 1) := by decide +kernel
theorem dX11_undo_26 : decode cX11_undo 26 = .ok (.iload_n 1, 1) := by decide +kernel
theorem dX11_undo_27 : decode cX11_undo 27 = .ok (.bipush 81, 2) := by decide +kernel
theorem dX11_undo_29 : decode cX11_undo 29 = .ok (.if_icmp .ge 29, 3) := by decide +kernel
theorem dX11_undo_32 : decode cX11_undo 32 = .ok (.aload_n 0, 1) := by decide +kernel
theorem dX11_undo_33 : decode cX11_undo 33 = .ok (.getfield 17, 3) := by decide +kernel
theorem dX11_undo_36 : decode cX11_undo 36 = .ok (.iload_n 1, 1) := by decide +kernel
theorem dX11_undo_37 : decode cX11_undo 37 = .ok (.aload_n 0, 1) := by decide +kernel
theorem dX11_undo_38 : decode cX11_undo 38 = .ok (.getfield 23, 3) := by decide +kernel
theorem dX11_undo_41 : decode cX11_undo 41 = .ok (.bipush 81, 2) := by decide +kernel
theorem dX11_undo_43 : decode cX11_undo 43 = .ok (.aload_n 0, 1) := by decide +kernel
theorem dX11_undo_44 : decode cX11_undo 44 = .ok (.getfield 155, 3) := by decide +kernel
theorem dX11_undo_47 : decode cX11_undo 47 = .ok (.imul, 1) := by decide +kernel
theorem dX11_undo_48 : decode cX11_undo 48 = .ok (.iload_n 1, 1) := by decide +kernel
theorem dX11_undo_49 : decode cX11_undo 49 = .ok (.iadd, 1) := by decide +kernel
theorem dX11_undo_50 : decode cX11_undo 50 = .ok (.iaload, 1) := by decide +kernel
theorem dX11_undo_51 : decode cX11_undo 51 = .ok (.iastore, 1) := by decide +kernel
theorem dX11_undo_52 : decode cX11_undo 52 = .ok (.iinc 1 1, 3) := by decide +kernel
theorem dX11_undo_55 : decode cX11_undo 55 = .ok (.goto (-29), 3) := by decide +kernel
theorem dX11_undo_58 : decode cX11_undo 58 = .ok (.aload_n 0, 1) := by decide +kernel
theorem dX11_undo_59 : decode cX11_undo 59 = .ok (.getfield 155, 3) := by decide +kernel
theorem dX11_undo_62 : decode cX11_undo 62 = .ok (.ireturn, 1) := by decide +kernel
theorem dX11_undo_13 : decode cX11_undo 13 = .ok (.ireturn, 1) := by decide +kernel
theorem dX11_image_0 : decode cX11_image 0 = .ok (.aload_n 0, 1) := by decide +kernel
theorem dX11_image_1 : decode cX11_image 1 = .ok (.iconst 0, 1) := by decide +kernel
theorem dX11_image_2 : decode cX11_image 2 = .ok (.putfield 75, 3) := by decide +kernel
theorem dX11_image_5 : decode cX11_image 5 = .ok (.iconst 0, 1) := by decide +kernel
theorem dX11_image_6 : decode cX11_image 6 = .ok (.istore_n 1, 1) := by decide +kernel
theorem dX11_image_7 : decode cX11_image 7 = .ok (.iload_n 1, 1) := by decide +kernel
theorem dX11_image_8 : decode cX11_image 8 = .ok (.bipush 81, 2) := by decide +kernel
theorem dX11_image_10 : decode cX11_image 10 = .ok (.if_icmp .ge 21, 3) := by decide +kernel
theorem dX11_image_13 : decode cX11_image 13 = .ok (.aload_n 0, 1) := by decide +kernel
theorem dX11_image_14 : decode cX11_image 14 = .ok (.getfield 20, 3) := by decide +kernel
theorem w_1440 : Cond.fieldLink "QuarterWalksModel" 20 "QuarterWalksModel" "image" "[I" ∈ wAll := wIn 1440 (by decide +kernel) (by decide +kernel)
theorem fl_X11_20 : fl RX11 20 12 7 := ⟨RX11, TX11, 32, rfl, inA_X11, by decide, w_1440⟩
theorem dX11_image_17 : decode cX11_image 17 = .ok (.iload_n 1, 1) := by decide +kernel
theorem dX11_image_18 : decode cX11_image 18 = .ok (.aload_n 0, 1) := by decide +kernel
theorem dX11_image_19 : decode cX11_image 19 = .ok (.getfield 17, 3) := by decide +kernel
theorem dX11_image_22 : decode cX11_image 22 = .ok (.iload_n 1, 1) := by decide +kernel
theorem dX11_image_23 : decode cX11_image 23 = .ok (.iaload, 1) := by decide +kernel
theorem dX11_image_24 : decode cX11_image 24 = .ok (.iastore, 1) := by decide +kernel
theorem dX11_image_25 : decode cX11_image 25 = .ok (.iinc 1 1, 3) := by decide +kernel
theorem dX11_image_28 : decode cX11_image 28 = .ok (.goto (-21), 3) := by decide +kernel
theorem dX11_image_31 : decode cX11_image 31 = .ok (.aload_n 0, 1) := by decide +kernel
theorem dX11_image_32 : decode cX11_image 32 = .ok (.iconst 1, 1) := by decide +kernel
theorem dX11_image_33 : decode cX11_image 33 = .ok (.putfield 437, 3) := by decide +kernel
theorem w_1444 : Cond.fieldLink "QuarterWalksModel" 437 "QuarterWalksModel" "hasImage" "Z" ∈ wAll := wIn 1444 (by decide +kernel) (by decide +kernel)
theorem flw_X11_437 : flw RX11 437 12 11 (.boolean) := ⟨RX11, TX11, 32, tyX11, rfl, inA_X11, by decide, w_1444, tyX11_ok, nmX11, by decide +kernel, Or.inl rfl⟩
theorem dX11_image_36 : decode cX11_image 36 = .ok (.aload_n 0, 1) := by decide +kernel
theorem dX11_image_37 : decode cX11_image 37 = .ok (.getfield 17, 3) := by decide +kernel
theorem dX11_image_40 : decode cX11_image 40 = .ok (.bipush 80, 2) := by decide +kernel
theorem dX11_image_42 : decode cX11_image 42 = .ok (.iaload, 1) := by decide +kernel
theorem dX11_image_43 : decode cX11_image 43 = .ok (.ireturn, 1) := by decide +kernel
theorem dX11_back_0 : decode cX11_back 0 = .ok (.aload_n 0, 1) := by decide +kernel
theorem dX11_back_1 : decode cX11_back 1 = .ok (.iconst 0, 1) := by decide +kernel
theorem dX11_back_2 : decode cX11_back 2 = .ok (.putfield 75, 3) := by decide +kernel
theorem dX11_back_5 : decode cX11_back 5 = .ok (.aload_n 0, 1) := by decide +kernel
theorem dX11_back_6 : decode cX11_back 6 = .ok (.getfield 437, 3) := by decide +kernel
theorem fl_X11_437 : fl RX11 437 12 11 := ⟨RX11, TX11, 32, rfl, inA_X11, by decide, w_1444⟩
theorem dX11_back_9 : decode cX11_back 9 = .ok (.ifCond .ne 5, 3) := by decide +kernel
theorem dX11_back_14 : decode cX11_back 14 = .ok (.iconst 0, 1) := by decide +kernel
theorem dX11_back_15 : decode cX11_back 15 = .ok (.istore_n 1, 1) := by decide +kernel
theorem dX11_back_12 : decode cX11_back 12 = .ok (.iconst (-1), 1) := by decide +kernel
theorem dX11_back_16 : decode cX11_back 16 = .ok (.iload_n 1, 1) := by decide +kernel
theorem dX11_back_17 : decode cX11_back 17 = .ok (.bipush 81, 2) := by decide +kernel
theorem dX11_back_19 : decode cX11_back 19 = .ok (.if_icmp .ge 21, 3) := by decide +kernel
theorem dX11_back_22 : decode cX11_back 22 = .ok (.aload_n 0, 1) := by decide +kernel
theorem dX11_back_23 : decode cX11_back 23 = .ok (.getfield 17, 3) := by decide +kernel
theorem dX11_back_26 : decode cX11_back 26 = .ok (.iload_n 1, 1) := by decide +kernel
theorem dX11_back_27 : decode cX11_back 27 = .ok (.aload_n 0, 1) := by decide +kernel
theorem dX11_back_28 : decode cX11_back 28 = .ok (.getfield 20, 3) := by decide +kernel
theorem dX11_back_31 : decode cX11_back 31 = .ok (.iload_n 1, 1) := by decide +kernel
theorem dX11_back_32 : decode cX11_back 32 = .ok (.iaload, 1) := by decide +kernel
theorem dX11_back_33 : decode cX11_back 33 = .ok (.iastore, 1) := by decide +kernel
theorem dX11_back_34 : decode cX11_back 34 = .ok (.iinc 1 1, 3) := by decide +kernel
theorem dX11_back_37 : decode cX11_back 37 = .ok (.goto (-21), 3) := by decide +kernel
theorem dX11_back_40 : decode cX11_back 40 = .ok (.aload_n 0, 1) := by decide +kernel
theorem dX11_back_41 : decode cX11_back 41 = .ok (.iconst 0, 1) := by decide +kernel
theorem dX11_back_42 : decode cX11_back 42 = .ok (.putfield 155, 3) := by decide +kernel
theorem dX11_back_45 : decode cX11_back 45 = .ok (.aload_n 0, 1) := by decide +kernel
theorem dX11_back_46 : decode cX11_back 46 = .ok (.getfield 17, 3) := by decide +kernel
theorem dX11_back_49 : decode cX11_back 49 = .ok (.bipush 80, 2) := by decide +kernel
theorem dX11_back_51 : decode cX11_back 51 = .ok (.iaload, 1) := by decide +kernel
theorem dX11_back_52 : decode cX11_back 52 = .ok (.ireturn, 1) := by decide +kernel
theorem dX11_back_13 : decode cX11_back 13 = .ok (.ireturn, 1) := by decide +kernel
abbrev rm_s_X11_mirrorX : Room := { frames := 2, cells := 0, slots := 0, locals := 46 }
set_option maxRecDepth 100000 in
set_option maxHeartbeats 4000000 in
theorem s_X11_mirrorX (l : Launch) (D : va_G) (G : Nat → Nat) (b0 : Nat) (τ : Nat → Nat) (f : hM) (t : TI G 9 τ f) (u0 : Nat) (hu0 : τ u0 = 60) (u1 : Int32) (hu1 : iv u1 (-2147483648) 2147483647) (ac : Int32) (hac : iv ac 0 12) (k_u0_10 : atp f u0 (fd 10 (.int ac))) (bq : Nat) (hbq : τ bq = 63) (k_u0_6 : atp f u0 (fd 6 (.ref bq))) (kq : Nat) (hkq : τ kq = 65) (k_u0_8 : atp f u0 (fd 8 (.ref kq))) (dq : Nat) (hdq : τ dq = 62) (k_u0_5 : atp f u0 (fd 5 (.ref dq))) (rb : Nat → Int32) (hRbq : atp f bq (eqc (.inl (G 1, 81, .inl rb)))) (rk : Nat → Int32) (hRkq : atp f kq (eqc (.inl (G 1, 972, .inl rk)))) (rd : Nat → Int32) (hRdq : atp f dq (eqc (.inl (G 1, 10, .inl rd)))) (hb9 : ∀ k : Nat, k < 80 → iv (rb k) 0 9) : mI l yX11_mirror cX11_mirror 3 (.int) rm_s_X11_mirrorX D G b0 f [.ref u0, .int u1] (fun r f1 => iv r (-1) 7 ∧ TI G 9 τ f1 ∧ Fr [60, 62, 63, 65, 66, 60001, 60011] τ f f1 ∧ (((((0 ≤ u1.toInt ∧ u1.toInt < (rb 80).toInt) ∧ (rb 80).toInt ≤ 7)) → r.toInt = (rb 80).toInt) ∧ (¬ (((0 ≤ u1.toInt ∧ u1.toInt < (rb 80).toInt) ∧ (rb 80).toInt ≤ 7)) → r.toInt = -1)) ∧ (∃ ac1 : Int32, atp f1 u0 (fd 10 (.int ac1)) ∧ iv ac1 0 12 ∧ ((((0 ≤ u1.toInt ∧ u1.toInt < (rb 80).toInt) ∧ (rb 80).toInt ≤ 7)) → ((ac.toInt = 12 → ac1.toInt = 12) ∧ (ac.toInt ≠ 12 → ac1.toInt = ac.toInt + 1))) ∧ (¬ (((0 ≤ u1.toInt ∧ u1.toInt < (rb 80).toInt) ∧ (rb 80).toInt ≤ 7)) → ac1.toInt = ac.toInt)) ∧ (∃ rb1 : Nat → Int32, atp f1 bq (eqc (.inl (G 1, 81, .inl rb1))) ∧ (∀ k : Nat, k < 81 → rb1 k = if ((0 ≤ u1.toInt ∧ u1.toInt < (rb 80).toInt) ∧ (rb 80).toInt ≤ 7) then cm rb (mi rb u1.toInt) k else rb k)) ∧ (∃ rk1 : Nat → Int32, atp f1 kq (eqc (.inl (G 1, 972, .inl rk1))) ∧ (∀ k : Nat, k < 972 → rk1 k = if ((0 ≤ u1.toInt ∧ u1.toInt < (rb 80).toInt) ∧ (rb 80).toInt ≤ 7) then kp rk rb ac.toInt k else rk k))) := by
  refine met2 (own := RX11) (by decide) rfl (Nat.le_of_ble_eq_true rfl) ?_
  intro p e s m args below meth c ls Q hQ C hr hini hl h
  have hl : lv_has ls 3 [(0, .ref u0), (1, .int u1)] := hl
  obtain ⟨hx, hb, hml, hown, hts, hE0, hlk⟩ := id C
  have o := Fr.rf [60, 62, 63, 65, 66, 60001, 60011] τ f
  have L39 : ∀ (n39 : Nat) (ls : Array Slot) (f_39 : hM) (H : Heap) (locs : List Loc) (v39_2 : Int32) (g39_dq_R : Nat → Int32), 8 - v39_2.toInt < (n39 : Int) → lv_has ls 3 [(0, .ref u0), (1, .int u1), (2, .int v39_2)] → hw D b0 s.heap f_39 H locs → TI G 9 τ f_39 → Fr [60, 62, 63, 65, 66, 60001, 60011] τ f f_39 → iv u1 0 7 → iv v39_2 0 8 → atp f_39 u0 (fd 10 (.int ac)) → atp f_39 u0 (fd 6 (.ref bq)) → atp f_39 u0 (fd 8 (.ref kq)) → atp f_39 u0 (fd 5 (.ref dq)) → atp f_39 bq (eqc (.inl (G 1, 81, .inl rb))) → atp f_39 kq (eqc (.inl (G 1, 972, .inl rk))) → atp f_39 dq (eqc (.inl (G 1, 10, .inl g39_dq_R))) → 0 ≤ u1.toInt ∧ u1.toInt < (rb 80).toInt → (rb 80).toInt ≤ 7 → (∀ k : Nat, g39_dq_R k = if k < 8 ∧ ((10 - (k : Int)) % 8) < v39_2.toInt then rb (10 * u1.toInt + (10 - (k : Int)) % 8).toNat else rd k) → W p l e rm_s_X11_mirrorX s m args below meth c H locs 0 0 Q (F0 m 39 ls []) := by
    intro n39
    induction n39 with
    | zero => intro ls f_39 H locs v39_2 g39_dq_R hm39 hl h t_39 o_39 jv39_1 iv39_2 k39_u0_10 k39_u0_6 k39_u0_8 k39_u0_5 k39_bq_R k39_kq_R k39_dq_R hv39_0 hv39_1 hv39_2; exact absurd hm39 (by omega)
    | succ n39 ih39 =>
      intro ls f_39 H locs v39_2 g39_dq_R hm39 hl h t_39 o_39 jv39_1 iv39_2 k39_u0_10 k39_u0_6 k39_u0_8 k39_u0_5 k39_bq_R k39_kq_R k39_dq_R hv39_0 hv39_1 hv39_2
      refine lv_iload_n hx hb dX11_mirror_39 rfl (lv_at hl 2 rfl) ?_
      refine lv_bipush (v := 8) hx hb dX11_mirror_40 (by decide) ?_
      refine lv_icmp_ge (tgt := 69) hx hb dX11_mirror_42 (by decide) (fun c1 => ?_) (fun c1 => ?_)
      · have c2 : 8 ≤ v39_2.toInt := Int32.le_iff_toInt_le.mp c1
        have i3 : iv v39_2 8 8 := iv_Er c2 (iv_k (x := 8) (k := 8) rfl) iv39_2 (by decide)
        refine lv_aload_n hx hb dX11_mirror_69 rfl (lv_at hl 0 rfl) ?_
        refine t_getfd C h t_39 hu0 (by decide) wf_60 (v := .ref dq) k39_u0_5 fl_X11_13 dX11_mirror_70 ?_
        refine lv_bipush (v := 8) hx hb dX11_mirror_73 (by decide) ?_
        refine lv_aload_n hx hb dX11_mirror_75 rfl (lv_at hl 0 rfl) ?_
        refine lv_iload_n hx hb dX11_mirror_76 rfl (lv_at hl 1 rfl) ?_
        refine lv_bipush (v := 9) hx hb dX11_mirror_77 (by decide) ?_
        obtain ⟨_, r6⟩ := t_rec t_39 hu0 (by decide) wf_60
        refine k_i (r_V C h hl (As := [.int u1, .int 9]) (rest := [.int 8, .ref dq]) (s_X11_weightOfX l D G b0 τ f_39 t_39 u0 hu0 u1 jv39_1 9 (iv_w (iv_k (x := 9) (k := 9) rfl) (by decide)) bq hbq k39_u0_6 rb k39_bq_R) r6 (Cn := RX11) (T := TX11) (N := 32) rfl rfl mk_X11_weightOf w_1631 w_1633 w_52 w_1634 ⟨Nat.le_of_ble_eq_true rfl, Nat.le_of_ble_eq_true rfl⟩ rfl (Nat.le_of_ble_eq_true rfl) ⟨Nat.le_of_ble_eq_true rfl, Nat.le_of_ble_eq_true rfl⟩ rfl dX11_mirror_79) h (fun r7 f8 H locs p9 h => ?_)
        have n10 : (9 : Int32).toInt = 9 := rfl
        obtain ⟨ir7, tf8, ogf8, x0r7, x1r7⟩ := p9
        have x0r7 : r7 = (rb (10 * u1.toInt + 9).toNat) := x0r7
        have x1r7 : r7.toInt = (rb (10 * u1.toInt + 9).toNat).toInt := x1r7
        have egf8 := Fr.nil2 ogf8
        subst egf8
        refine e_iast C h t_39 o_39 hdq (by decide) (by decide) wf_62 fw_62 k39_dq_R (by unfold vp_in; decide) (iv_w ir7 (by decide)) dX11_mirror_82 (fun R13 f11 erR13 H locs h tf11 of11 hq hn_ k12 => ?_)
        have erR13 : R13 = upd g39_dq_R 8 r7 := erR13
        have k14 := atp.tg k39_u0_10 hq hu0 (by decide)
        have k15 := atp.tg k39_u0_6 hq hu0 (by decide)
        have k16 := atp.tg k39_u0_8 hq hu0 (by decide)
        have k17 := atp.tg k39_u0_5 hq hu0 (by decide)
        have k18 := atp.tg k39_bq_R hq hbq (by decide)
        have k19 := atp.tg k39_kq_R hq hkq (by decide)
        refine lv_aload_n hx hb dX11_mirror_83 rfl (lv_at hl 0 rfl) ?_
        refine t_getfd C h tf11 hu0 (by decide) wf_60 (v := .ref dq) k17 fl_X11_13 dX11_mirror_84 ?_
        refine lv_bipush (v := 9) hx hb dX11_mirror_87 (by decide) ?_
        refine lv_aload_n hx hb dX11_mirror_89 rfl (lv_at hl 0 rfl) ?_
        refine lv_iload_n hx hb dX11_mirror_90 rfl (lv_at hl 1 rfl) ?_
        refine lv_bipush (v := 8) hx hb dX11_mirror_91 (by decide) ?_
        obtain ⟨_, r21⟩ := t_rec tf11 hu0 (by decide) wf_60
        refine k_i (r_V C h hl (As := [.int u1, .int 8]) (rest := [.int 9, .ref dq]) (s_X11_weightOfX l D G b0 τ f11 tf11 u0 hu0 u1 jv39_1 8 (iv_w (iv_k (x := 8) (k := 8) rfl) (by decide)) bq hbq k15 rb k18) r21 (Cn := RX11) (T := TX11) (N := 32) rfl rfl mk_X11_weightOf w_1631 w_1633 w_52 w_1634 ⟨Nat.le_of_ble_eq_true rfl, Nat.le_of_ble_eq_true rfl⟩ rfl (Nat.le_of_ble_eq_true rfl) ⟨Nat.le_of_ble_eq_true rfl, Nat.le_of_ble_eq_true rfl⟩ rfl dX11_mirror_93) h (fun r22 f23 H locs p24 h => ?_)
        have n25 : (8 : Int32).toInt = 8 := rfl
        obtain ⟨ir22, tf23, ogf23, x0r22, x1r22⟩ := p24
        have x0r22 : r22 = (rb (10 * u1.toInt + 8).toNat) := x0r22
        have x1r22 : r22.toInt = (rb (10 * u1.toInt + 8).toNat).toInt := x1r22
        have egf23 := Fr.nil2 ogf23
        subst egf23
        refine e_iast C h tf11 of11 hdq (by decide) (by decide) wf_62 fw_62 k12 (by unfold vp_in; decide) (iv_w ir22 (by decide)) dX11_mirror_96 (fun R28 f26 erR28 H locs h tf26 of26 hq hn_ k27 => ?_)
        have erR28 : R28 = upd R13 9 r22 := erR28
        have k29 := atp.tg k14 hq hu0 (by decide)
        have k30 := atp.tg k15 hq hu0 (by decide)
        have k31 := atp.tg k16 hq hu0 (by decide)
        have k32 := atp.tg k17 hq hu0 (by decide)
        have k33 := atp.tg k18 hq hbq (by decide)
        have k34 := atp.tg k19 hq hkq (by decide)
        refine lv_aload_n hx hb dX11_mirror_97 rfl (lv_at hl 0 rfl) ?_
        have hfd : ∀ k : Nat, k < 10 → R28 k = mi rb u1.toInt k := fun k hk => by
          rw [erR28, erR13]; unfold mi
          by_cases q9 : k = 9
          · rw [upd_at q9, x0r22]; (repeat' split) <;> first | rfl | (exfalso; omega) | (exact congrArg _ (by omega))
          · rw [upd_off q9]; by_cases q8 : k = 8
            · rw [upd_at q8, x0r7]; (repeat' split) <;> first | rfl | (exfalso; omega) | (exact congrArg _ (by omega))
            · rw [upd_off q8, hv39_2 k]; (repeat' split) <;> first | rfl | (exfalso; omega) | (exact congrArg _ (by omega))
        obtain ⟨_, r36⟩ := t_rec tf26 hu0 (by decide) wf_60
        refine k_i (r_V C h hl (As := []) (rest := []) (s_X11_comesX l D G b0 τ f26 tf26 u0 hu0 ac hac k29 bq hbq k30 kq hkq k31 dq hdq k32 rb k33 rk k34 R28 k27 (fun k hk => by rw [hfd k hk]; unfold mi; (repeat' split) <;> exact hb9 _ (by omega)) (by omega)) r36 (Cn := RX11) (T := TX11) (N := 32) rfl rfl mk_X11_comes w_1608 w_1610 w_49 w_1611 ⟨Nat.le_of_ble_eq_true rfl, Nat.le_of_ble_eq_true rfl⟩ rfl (Nat.le_of_ble_eq_true rfl) ⟨Nat.le_of_ble_eq_true rfl, Nat.le_of_ble_eq_true rfl⟩ rfl dX11_mirror_98) h (fun r37 f38 H locs p39 h => ?_)
        obtain ⟨ir37, tf38, ogf38, x0r37, ⟨ac1_f38, kpu0_10f38, ipu0_10f38, rpu0_10f38⟩, ⟨rb1_f38, kRbqf38, pRbqf38⟩, ⟨rk1_f38, kRkqf38, pRkqf38⟩⟩ := p39
        have of38 : Fr [60, 62, 63, 65, 66, 60001, 60011] τ f f38 := Fr.tr of26 ogf38 (by decide) (by decide)
        have k40 := atp.fk k30 ogf38 hu0 (by decide) (by decide)
        have k41 := atp.fk k31 ogf38 hu0 (by decide) (by decide)
        have k42 := atp.fk k32 ogf38 hu0 (by decide) (by decide)
        have k43 := atp.fr k27 ogf38 hdq (by decide)
        exact u_iret C h hr hQ (⟨ir37, tf38, of38, ⟨fun _ => (by omega), fun z_ => (z_ (by omega)).elim⟩, ⟨ac1_f38, kpu0_10f38, (iv_w ipu0_10f38 (by decide)), ⟨fun _ => (by omega), fun z_ => (z_ (by omega)).elim⟩⟩, ⟨rb1_f38, kRbqf38, (fun k hk => by
            rw [if_pos (by omega)]
            rw [pRbqf38 k hk]; exact cme_eq hfd (by omega) k hk)⟩, ⟨rk1_f38, kRkqf38, (fun k hk => by rw [if_pos (by omega)]; exact pRkqf38 k hk)⟩⟩) (Nat.le_of_ble_eq_true rfl) (Nat.le_of_ble_eq_true rfl) dX11_mirror_101
      · have c4 : v39_2.toInt < 8 := Int32.lt_iff_toInt_lt.mp (iv_nle c1)
        have i5 : iv v39_2 0 7 := iv_Ll c4 iv39_2 (iv_k (x := 8) (k := 8) rfl) (by decide)
        refine lv_aload_n hx hb dX11_mirror_45 rfl (lv_at hl 0 rfl) ?_
        refine t_getfd C h t_39 hu0 (by decide) wf_60 (v := .ref dq) k39_u0_5 fl_X11_13 dX11_mirror_46 ?_
        refine lv_bipush (v := 10) hx hb dX11_mirror_49 (by decide) ?_
        refine lv_iload_n hx hb dX11_mirror_51 rfl (lv_at hl 2 rfl) ?_
        refine i_ksub hx hb dX11_mirror_52 (k := 10) rfl i5 (lo := 3) (hi := 10) (by decide) (fun z44 ez44 mz44 iz44 => ?_)
        refine lv_bipush (v := 8) hx hb dX11_mirror_53 (by decide) ?_
        refine lv_irem hx hb dX11_mirror_55 (by decide) (i_topm (P := fun q_ => q_ = Int32.toInt z44 % 8) (iv_remx (k := 8) (iv_w iz44 (by decide) : iv _ 0 10) rfl (by decide)) (fun z45 ez45 mz45 iz45 => ?_))
        refine lv_aload_n hx hb dX11_mirror_56 rfl (lv_at hl 0 rfl) ?_
        refine lv_iload_n hx hb dX11_mirror_57 rfl (lv_at hl 1 rfl) ?_
        refine lv_iload_n hx hb dX11_mirror_58 rfl (lv_at hl 2 rfl) ?_
        obtain ⟨_, r46⟩ := t_rec t_39 hu0 (by decide) wf_60
        refine k_i (r_V C h hl (As := [.int u1, .int v39_2]) (rest := [.int z45, .ref dq]) (s_X11_weightOfX l D G b0 τ f_39 t_39 u0 hu0 u1 jv39_1 v39_2 (iv_w i5 (by decide)) bq hbq k39_u0_6 rb k39_bq_R) r46 (Cn := RX11) (T := TX11) (N := 32) rfl rfl mk_X11_weightOf w_1631 w_1633 w_52 w_1634 ⟨Nat.le_of_ble_eq_true rfl, Nat.le_of_ble_eq_true rfl⟩ rfl (Nat.le_of_ble_eq_true rfl) ⟨Nat.le_of_ble_eq_true rfl, Nat.le_of_ble_eq_true rfl⟩ rfl dX11_mirror_59) h (fun r47 f48 H locs p49 h => ?_)
        obtain ⟨ir47, tf48, ogf48, x0r47, x1r47⟩ := p49
        have egf48 := Fr.nil2 ogf48
        subst egf48
        refine e_iast C h t_39 o_39 hdq (by decide) (by decide) wf_62 fw_62 k39_dq_R (iv_in iz45 (by decide)) (iv_w ir47 (by decide)) dX11_mirror_62 (fun R52 f50 erR52 H locs h tf50 of50 hq hn_ k51 => ?_)
        have k53 := atp.tg k39_u0_10 hq hu0 (by decide)
        have k54 := atp.tg k39_u0_6 hq hu0 (by decide)
        have k55 := atp.tg k39_u0_8 hq hu0 (by decide)
        have k56 := atp.tg k39_u0_5 hq hu0 (by decide)
        have k57 := atp.tg k39_bq_R hq hbq (by decide)
        have k58 := atp.tg k39_kq_R hq hkq (by decide)
        refine i_inc hx hb dX11_mirror_63 hl (k := 2) rfl i5 rfl (lo := 1) (hi := 8) (by decide) (by decide) (lv' := fun v => [(2, .int v), (0, .ref u0), (1, .int u1)]) (fun _ => rfl) (fun z60 ls ez60 mz60 iz60 hl => ?_)
        refine lv_goto (tgt := 39) hx hb dX11_mirror_66 (by decide) ?_
        exact ih39 ls f50 H locs z60 R52 (show 8 - z60.toInt < _ by omega) (lv_cons hl 1 rfl (lv_cons hl 2 rfl (lv_cons hl 0 rfl (lv_nil hl)))) h tf50 of50 jv39_1 (iv_w iz60 (by decide)) k53 k54 k55 k56 k57 k58 k51 (show 0 ≤ u1.toInt ∧ u1.toInt < (rb 80).toInt by omega) (show (rb 80).toInt ≤ 7 by omega) (show ∀ k : Nat, R52 k = if k < 8 ∧ ((10 - (k : Int)) % 8) < z60.toInt then rb (10 * u1.toInt + (10 - (k : Int)) % 8).toNat else rd k from (by
            intro k; rw [erR52]; by_cases q_ : k = z45.toInt.toNat
            · rw [upd_at q_, x0r47]; (repeat' split) <;> first | rfl | (exfalso; omega) | (exact congrArg _ (by omega)) | (exact congr (congrArg HAdd.hAdd (congrArg rb (by omega))) (congrArg rb (by omega)))
            · rw [upd_off q_, hv39_2 k]; (repeat' split) <;> first | rfl | (exfalso; omega) | (exact congrArg _ (by omega))))
  refine lv_aload_n hx hb dX11_mirror_0 rfl (lv_at hl 0 rfl) ?_
  refine lv_iconst (v := 0) hx hb dX11_mirror_1 (by decide) ?_
  refine t_put C h t o hu0 (by decide) (by decide) (by decide) wf_60 fw_60 (k := 0) rfl flw_X11_75 (Or.inr ⟨_, _, _, rfl, rfl⟩) (v := .int 0) rfl rfl ⟨_, rfl, ⟨by decide, by decide⟩⟩ dX11_mirror_2 (fun f61 H locs h tf61 of61 hq ha_ hn_ hk_ => ?_)
  have k62 := hk_ 10 _ (by decide) k_u0_10
  have k63 := hk_ 6 _ (by decide) k_u0_6
  have k64 := hk_ 8 _ (by decide) k_u0_8
  have k65 := hk_ 5 _ (by decide) k_u0_5
  have k66 := atp.tg hRbq hq hbq (by decide)
  have k67 := atp.tg hRkq hq hkq (by decide)
  have k68 := atp.tg hRdq hq hdq (by decide)
  have k69 := ha_
  refine lv_aload_n hx hb dX11_mirror_5 rfl (lv_at hl 0 rfl) ?_
  refine lv_iload_n hx hb dX11_mirror_6 rfl (lv_at hl 1 rfl) ?_
  obtain ⟨_, r70⟩ := t_rec tf61 hu0 (by decide) wf_60
  refine k_i (r_V C h hl (As := [.int u1]) (rest := []) (s_X11_isSetX l D G b0 τ f61 tf61 u0 hu0 u1 hu1 bq hbq k63 rb k66) r70 (Cn := RX11) (T := TX11) (N := 32) rfl rfl mk_X11_isSet w_1620 w_1622 w_51 w_1623 ⟨Nat.le_of_ble_eq_true rfl, Nat.le_of_ble_eq_true rfl⟩ rfl (Nat.le_of_ble_eq_true rfl) ⟨Nat.le_of_ble_eq_true rfl, Nat.le_of_ble_eq_true rfl⟩ rfl dX11_mirror_7) h (fun r71 f72 H locs p73 h => ?_)
  obtain ⟨ir71, tf72, ogf72, cnr71, czr71⟩ := p73
  have egf72 := Fr.nil2 ogf72
  subst egf72
  refine lv_if_ne (tgt := 19) hx hb dX11_mirror_10 (by decide) (fun c74 => ?_) (fun c74 => ?_)
  · have c75 : r71.toInt ≠ 0 := fun z_ => c74 (Int32.toInt_inj.mp z_)
    have i76 : iv r71 1 1 := iv_Nl c75 ir71 (by decide)
    obtain ⟨i77, i78⟩ := cnr71 c75
    refine lv_aload_n hx hb dX11_mirror_19 rfl (lv_at hl 0 rfl) ?_
    refine t_getfd C h tf61 hu0 (by decide) wf_60 (v := .ref bq) k63 fl_X11_17 dX11_mirror_20 ?_
    refine lv_bipush (v := 80) hx hb dX11_mirror_23 (by decide) ?_
    refine e_bk80 C h tf61 hbq (by decide) wf_63 k66 dX11_mirror_25 (fun z82 ez82 iz82 => ?_)
    have mz82 := congrArg Int32.toInt ez82
    refine lv_bipush (v := 8) hx hb dX11_mirror_26 (by decide) ?_
    refine lv_icmp_ne (tgt := 37) hx hb dX11_mirror_28 (by decide) (fun c83 => ?_) (fun c83 => ?_)
    · have c84 : z82.toInt ≠ 8 := fun z_ => c83 (Int32.toInt_inj.mp z_)
      have i85 : iv z82 0 7 := iv_Nh c84 iz82 (by decide)
      refine lv_iconst (v := 0) hx hb dX11_mirror_37 (by decide) ?_
      refine lv_istore_n (lv' := [(2, .int 0), (0, .ref u0), (1, .int u1)]) hx hb dX11_mirror_38 rfl hl (by decide) rfl (fun ls hl => ?_)
      exact L39 9 ls f61 H locs 0 rd (by decide) (lv_cons hl 1 rfl (lv_cons hl 2 rfl (lv_cons hl 0 rfl (lv_nil hl)))) h tf61 of61 i77 ⟨by decide, by decide⟩ k62 k63 k64 k65 k66 k67 k68 (show 0 ≤ u1.toInt ∧ u1.toInt < (rb 80).toInt by omega) (show (rb 80).toInt ≤ 7 by omega) (show ∀ k : Nat, rd k = if k < 8 ∧ ((10 - (k : Int)) % 8) < 0 then rb (10 * u1.toInt + (10 - (k : Int)) % 8).toNat else rd k from (by
          intro k; (repeat' split) <;> first | rfl | (exfalso; omega) | (exact congrArg _ (by omega))))
    · have c86 : z82.toInt = 8 := congrArg Int32.toInt c83
      have i87 : iv z82 8 8 := iv_Q c86 iz82 (iv_k (x := 8) (k := 8) rfl) (by decide)
      refine lv_aload_n hx hb dX11_mirror_31 rfl (lv_at hl 0 rfl) ?_
      refine lv_iconst (v := 2) hx hb dX11_mirror_32 (by decide) ?_
      obtain ⟨_, r88⟩ := t_rec tf61 hu0 (by decide) wf_60
      refine k_i (r_V C h hl (As := [.int 2]) (rest := []) (s_X11_refuse l D G b0 τ f61 tf61 u0 hu0 2 (iv_w (iv_k (x := 2) (k := 2) rfl) (by decide))) r88 (Cn := RX11) (T := TX11) (N := 32) rfl rfl mk_X11_refuse w_1604 w_1606 w_48 w_1607 ⟨Nat.le_of_ble_eq_true rfl, Nat.le_of_ble_eq_true rfl⟩ rfl (Nat.le_of_ble_eq_true rfl) ⟨Nat.le_of_ble_eq_true rfl, Nat.le_of_ble_eq_true rfl⟩ rfl dX11_mirror_33) h (fun r89 f90 H locs p91 h => ?_)
      obtain ⟨ir89, tf90, ogf90⟩ := p91
      have of90 : Fr [60, 62, 63, 65, 66, 60001, 60011] τ f f90 := Fr.tr of61 ogf90 (by decide) (by decide)
      have k92 := atp.fr k62 ogf90 hu0 (by decide)
      have k93 := atp.fr k63 ogf90 hu0 (by decide)
      have k94 := atp.fr k64 ogf90 hu0 (by decide)
      have k95 := atp.fr k65 ogf90 hu0 (by decide)
      have k96 := atp.fr k66 ogf90 hbq (by decide)
      have k97 := atp.fr k67 ogf90 hkq (by decide)
      have k98 := atp.fr k68 ogf90 hdq (by decide)
      exact u_iret C h hr hQ (⟨(iv_w ir89 (by decide)), tf90, of90, ⟨fun z_ => absurd z_ (by omega), fun _ => (by omega)⟩, ⟨ac, k92, hac, ⟨fun z_ => absurd z_ (by omega), fun _ => rfl⟩⟩, ⟨rb, k96, (fun k hk => by rw [if_neg (by omega)])⟩, ⟨rk, k97, (fun k hk => by rw [if_neg (by omega)])⟩⟩) (Nat.le_of_ble_eq_true rfl) (Nat.le_of_ble_eq_true rfl) dX11_mirror_36
  · have c79 : r71.toInt = 0 := congrArg Int32.toInt c74
    have i80 : iv r71 0 0 := iv_Q c79 ir71 (iv_k (x := 0) (k := 0) rfl) (by decide)
    have i81 := czr71 c79
    refine lv_aload_n hx hb dX11_mirror_13 rfl (lv_at hl 0 rfl) ?_
    refine lv_iconst (v := 0) hx hb dX11_mirror_14 (by decide) ?_
    obtain ⟨_, r99⟩ := t_rec tf61 hu0 (by decide) wf_60
    refine k_i (r_V C h hl (As := [.int 0]) (rest := []) (s_X11_refuse l D G b0 τ f61 tf61 u0 hu0 0 (iv_w (iv_k (x := 0) (k := 0) rfl) (by decide))) r99 (Cn := RX11) (T := TX11) (N := 32) rfl rfl mk_X11_refuse w_1604 w_1606 w_48 w_1607 ⟨Nat.le_of_ble_eq_true rfl, Nat.le_of_ble_eq_true rfl⟩ rfl (Nat.le_of_ble_eq_true rfl) ⟨Nat.le_of_ble_eq_true rfl, Nat.le_of_ble_eq_true rfl⟩ rfl dX11_mirror_15) h (fun r100 f101 H locs p102 h => ?_)
    obtain ⟨ir100, tf101, ogf101⟩ := p102
    have of101 : Fr [60, 62, 63, 65, 66, 60001, 60011] τ f f101 := Fr.tr of61 ogf101 (by decide) (by decide)
    have k103 := atp.fr k62 ogf101 hu0 (by decide)
    have k104 := atp.fr k63 ogf101 hu0 (by decide)
    have k105 := atp.fr k64 ogf101 hu0 (by decide)
    have k106 := atp.fr k65 ogf101 hu0 (by decide)
    have k107 := atp.fr k66 ogf101 hbq (by decide)
    have k108 := atp.fr k67 ogf101 hkq (by decide)
    have k109 := atp.fr k68 ogf101 hdq (by decide)
    exact u_iret C h hr hQ (⟨(iv_w ir100 (by decide)), tf101, of101, ⟨fun z_ => absurd z_ (by omega), fun _ => (by omega)⟩, ⟨ac, k103, hac, ⟨fun z_ => absurd z_ (by omega), fun _ => rfl⟩⟩, ⟨rb, k107, (fun k hk => by rw [if_neg (by omega)])⟩, ⟨rk, k108, (fun k hk => by rw [if_neg (by omega)])⟩⟩) (Nat.le_of_ble_eq_true rfl) (Nat.le_of_ble_eq_true rfl) dX11_mirror_18
abbrev rm_s_X11_turnX : Room := { frames := 2, cells := 0, slots := 0, locals := 46 }
set_option maxRecDepth 100000 in
set_option maxHeartbeats 4000000 in
theorem s_X11_turnX (l : Launch) (D : va_G) (G : Nat → Nat) (b0 : Nat) (τ : Nat → Nat) (f : hM) (t : TI G 9 τ f) (u0 : Nat) (hu0 : τ u0 = 60) (u1 : Int32) (hu1 : iv u1 (-2147483648) 2147483647) (ac : Int32) (hac : iv ac 0 12) (k_u0_10 : atp f u0 (fd 10 (.int ac))) (bq : Nat) (hbq : τ bq = 63) (k_u0_6 : atp f u0 (fd 6 (.ref bq))) (kq : Nat) (hkq : τ kq = 65) (k_u0_8 : atp f u0 (fd 8 (.ref kq))) (dq : Nat) (hdq : τ dq = 62) (k_u0_5 : atp f u0 (fd 5 (.ref dq))) (rb : Nat → Int32) (hRbq : atp f bq (eqc (.inl (G 1, 81, .inl rb)))) (rk : Nat → Int32) (hRkq : atp f kq (eqc (.inl (G 1, 972, .inl rk)))) (rd : Nat → Int32) (hRdq : atp f dq (eqc (.inl (G 1, 10, .inl rd)))) (hb9 : ∀ k : Nat, k < 80 → iv (rb k) 0 9) : mI l yX11_turn cX11_turn 3 (.int) rm_s_X11_turnX D G b0 f [.ref u0, .int u1] (fun r f1 => iv r (-1) 7 ∧ TI G 9 τ f1 ∧ Fr [60, 62, 63, 65, 66, 60001, 60011] τ f f1 ∧ (((((0 ≤ u1.toInt ∧ u1.toInt < (rb 80).toInt) ∧ (rb 80).toInt ≤ 7)) → r.toInt = (rb 80).toInt) ∧ (¬ (((0 ≤ u1.toInt ∧ u1.toInt < (rb 80).toInt) ∧ (rb 80).toInt ≤ 7)) → r.toInt = -1)) ∧ (∃ ac1 : Int32, atp f1 u0 (fd 10 (.int ac1)) ∧ iv ac1 0 12 ∧ ((((0 ≤ u1.toInt ∧ u1.toInt < (rb 80).toInt) ∧ (rb 80).toInt ≤ 7)) → ((ac.toInt = 12 → ac1.toInt = 12) ∧ (ac.toInt ≠ 12 → ac1.toInt = ac.toInt + 1))) ∧ (¬ (((0 ≤ u1.toInt ∧ u1.toInt < (rb 80).toInt) ∧ (rb 80).toInt ≤ 7)) → ac1.toInt = ac.toInt)) ∧ (∃ rb1 : Nat → Int32, atp f1 bq (eqc (.inl (G 1, 81, .inl rb1))) ∧ (∀ k : Nat, k < 81 → rb1 k = if ((0 ≤ u1.toInt ∧ u1.toInt < (rb 80).toInt) ∧ (rb 80).toInt ≤ 7) then cm rb (tr rb u1.toInt) k else rb k)) ∧ (∃ rk1 : Nat → Int32, atp f1 kq (eqc (.inl (G 1, 972, .inl rk1))) ∧ (∀ k : Nat, k < 972 → rk1 k = if ((0 ≤ u1.toInt ∧ u1.toInt < (rb 80).toInt) ∧ (rb 80).toInt ≤ 7) then kp rk rb ac.toInt k else rk k))) := by
  refine met2 (own := RX11) (by decide) rfl (Nat.le_of_ble_eq_true rfl) ?_
  intro p e s m args below meth c ls Q hQ C hr hini hl h
  have hl : lv_has ls 3 [(0, .ref u0), (1, .int u1)] := hl
  obtain ⟨hx, hb, hml, hown, hts, hE0, hlk⟩ := id C
  have o := Fr.rf [60, 62, 63, 65, 66, 60001, 60011] τ f
  have L39 : ∀ (n39 : Nat) (ls : Array Slot) (f_39 : hM) (H : Heap) (locs : List Loc) (v39_2 : Int32) (g39_dq_R : Nat → Int32), 8 - v39_2.toInt < (n39 : Int) → lv_has ls 3 [(0, .ref u0), (1, .int u1), (2, .int v39_2)] → hw D b0 s.heap f_39 H locs → TI G 9 τ f_39 → Fr [60, 62, 63, 65, 66, 60001, 60011] τ f f_39 → iv u1 0 7 → iv v39_2 0 8 → atp f_39 u0 (fd 10 (.int ac)) → atp f_39 u0 (fd 6 (.ref bq)) → atp f_39 u0 (fd 8 (.ref kq)) → atp f_39 u0 (fd 5 (.ref dq)) → atp f_39 bq (eqc (.inl (G 1, 81, .inl rb))) → atp f_39 kq (eqc (.inl (G 1, 972, .inl rk))) → atp f_39 dq (eqc (.inl (G 1, 10, .inl g39_dq_R))) → 0 ≤ u1.toInt ∧ u1.toInt < (rb 80).toInt → (rb 80).toInt ≤ 7 → (∀ k : Nat, g39_dq_R k = if k < 8 ∧ (((k : Int) + 4) % 8) < v39_2.toInt then rb (10 * u1.toInt + ((k : Int) + 4) % 8).toNat else rd k) → W p l e rm_s_X11_turnX s m args below meth c H locs 0 0 Q (F0 m 39 ls []) := by
    intro n39
    induction n39 with
    | zero => intro ls f_39 H locs v39_2 g39_dq_R hm39 hl h t_39 o_39 jv39_1 iv39_2 k39_u0_10 k39_u0_6 k39_u0_8 k39_u0_5 k39_bq_R k39_kq_R k39_dq_R hv39_0 hv39_1 hv39_2; exact absurd hm39 (by omega)
    | succ n39 ih39 =>
      intro ls f_39 H locs v39_2 g39_dq_R hm39 hl h t_39 o_39 jv39_1 iv39_2 k39_u0_10 k39_u0_6 k39_u0_8 k39_u0_5 k39_bq_R k39_kq_R k39_dq_R hv39_0 hv39_1 hv39_2
      refine lv_iload_n hx hb dX11_turn_39 rfl (lv_at hl 2 rfl) ?_
      refine lv_bipush (v := 8) hx hb dX11_turn_40 (by decide) ?_
      refine lv_icmp_ge (tgt := 68) hx hb dX11_turn_42 (by decide) (fun c1 => ?_) (fun c1 => ?_)
      · have c2 : 8 ≤ v39_2.toInt := Int32.le_iff_toInt_le.mp c1
        have i3 : iv v39_2 8 8 := iv_Er c2 (iv_k (x := 8) (k := 8) rfl) iv39_2 (by decide)
        refine lv_aload_n hx hb dX11_turn_68 rfl (lv_at hl 0 rfl) ?_
        refine t_getfd C h t_39 hu0 (by decide) wf_60 (v := .ref dq) k39_u0_5 fl_X11_13 dX11_turn_69 ?_
        refine lv_bipush (v := 8) hx hb dX11_turn_72 (by decide) ?_
        refine lv_aload_n hx hb dX11_turn_74 rfl (lv_at hl 0 rfl) ?_
        refine lv_iload_n hx hb dX11_turn_75 rfl (lv_at hl 1 rfl) ?_
        refine lv_bipush (v := 8) hx hb dX11_turn_76 (by decide) ?_
        obtain ⟨_, r6⟩ := t_rec t_39 hu0 (by decide) wf_60
        refine k_i (r_V C h hl (As := [.int u1, .int 8]) (rest := [.int 8, .ref dq]) (s_X11_weightOfX l D G b0 τ f_39 t_39 u0 hu0 u1 jv39_1 8 (iv_w (iv_k (x := 8) (k := 8) rfl) (by decide)) bq hbq k39_u0_6 rb k39_bq_R) r6 (Cn := RX11) (T := TX11) (N := 32) rfl rfl mk_X11_weightOf w_1631 w_1633 w_52 w_1634 ⟨Nat.le_of_ble_eq_true rfl, Nat.le_of_ble_eq_true rfl⟩ rfl (Nat.le_of_ble_eq_true rfl) ⟨Nat.le_of_ble_eq_true rfl, Nat.le_of_ble_eq_true rfl⟩ rfl dX11_turn_78) h (fun r7 f8 H locs p9 h => ?_)
        have n10 : (8 : Int32).toInt = 8 := rfl
        obtain ⟨ir7, tf8, ogf8, x0r7, x1r7⟩ := p9
        have x0r7 : r7 = (rb (10 * u1.toInt + 8).toNat) := x0r7
        have x1r7 : r7.toInt = (rb (10 * u1.toInt + 8).toNat).toInt := x1r7
        have egf8 := Fr.nil2 ogf8
        subst egf8
        refine e_iast C h t_39 o_39 hdq (by decide) (by decide) wf_62 fw_62 k39_dq_R (by unfold vp_in; decide) (iv_w ir7 (by decide)) dX11_turn_81 (fun R13 f11 erR13 H locs h tf11 of11 hq hn_ k12 => ?_)
        have erR13 : R13 = upd g39_dq_R 8 r7 := erR13
        have k14 := atp.tg k39_u0_10 hq hu0 (by decide)
        have k15 := atp.tg k39_u0_6 hq hu0 (by decide)
        have k16 := atp.tg k39_u0_8 hq hu0 (by decide)
        have k17 := atp.tg k39_u0_5 hq hu0 (by decide)
        have k18 := atp.tg k39_bq_R hq hbq (by decide)
        have k19 := atp.tg k39_kq_R hq hkq (by decide)
        refine lv_aload_n hx hb dX11_turn_82 rfl (lv_at hl 0 rfl) ?_
        refine t_getfd C h tf11 hu0 (by decide) wf_60 (v := .ref dq) k17 fl_X11_13 dX11_turn_83 ?_
        refine lv_bipush (v := 9) hx hb dX11_turn_86 (by decide) ?_
        refine lv_aload_n hx hb dX11_turn_88 rfl (lv_at hl 0 rfl) ?_
        refine lv_iload_n hx hb dX11_turn_89 rfl (lv_at hl 1 rfl) ?_
        refine lv_bipush (v := 9) hx hb dX11_turn_90 (by decide) ?_
        obtain ⟨_, r21⟩ := t_rec tf11 hu0 (by decide) wf_60
        refine k_i (r_V C h hl (As := [.int u1, .int 9]) (rest := [.int 9, .ref dq]) (s_X11_weightOfX l D G b0 τ f11 tf11 u0 hu0 u1 jv39_1 9 (iv_w (iv_k (x := 9) (k := 9) rfl) (by decide)) bq hbq k15 rb k18) r21 (Cn := RX11) (T := TX11) (N := 32) rfl rfl mk_X11_weightOf w_1631 w_1633 w_52 w_1634 ⟨Nat.le_of_ble_eq_true rfl, Nat.le_of_ble_eq_true rfl⟩ rfl (Nat.le_of_ble_eq_true rfl) ⟨Nat.le_of_ble_eq_true rfl, Nat.le_of_ble_eq_true rfl⟩ rfl dX11_turn_92) h (fun r22 f23 H locs p24 h => ?_)
        have n25 : (9 : Int32).toInt = 9 := rfl
        obtain ⟨ir22, tf23, ogf23, x0r22, x1r22⟩ := p24
        have x0r22 : r22 = (rb (10 * u1.toInt + 9).toNat) := x0r22
        have x1r22 : r22.toInt = (rb (10 * u1.toInt + 9).toNat).toInt := x1r22
        have egf23 := Fr.nil2 ogf23
        subst egf23
        refine e_iast C h tf11 of11 hdq (by decide) (by decide) wf_62 fw_62 k12 (by unfold vp_in; decide) (iv_w ir22 (by decide)) dX11_turn_95 (fun R28 f26 erR28 H locs h tf26 of26 hq hn_ k27 => ?_)
        have erR28 : R28 = upd R13 9 r22 := erR28
        have k29 := atp.tg k14 hq hu0 (by decide)
        have k30 := atp.tg k15 hq hu0 (by decide)
        have k31 := atp.tg k16 hq hu0 (by decide)
        have k32 := atp.tg k17 hq hu0 (by decide)
        have k33 := atp.tg k18 hq hbq (by decide)
        have k34 := atp.tg k19 hq hkq (by decide)
        refine lv_aload_n hx hb dX11_turn_96 rfl (lv_at hl 0 rfl) ?_
        have hfd : ∀ k : Nat, k < 10 → R28 k = tr rb u1.toInt k := fun k hk => by
          rw [erR28, erR13]; unfold tr
          by_cases q9 : k = 9
          · rw [upd_at q9, x0r22]; (repeat' split) <;> first | rfl | (exfalso; omega) | (exact congrArg _ (by omega))
          · rw [upd_off q9]; by_cases q8 : k = 8
            · rw [upd_at q8, x0r7]; (repeat' split) <;> first | rfl | (exfalso; omega) | (exact congrArg _ (by omega))
            · rw [upd_off q8, hv39_2 k]; (repeat' split) <;> first | rfl | (exfalso; omega) | (exact congrArg _ (by omega))
        obtain ⟨_, r36⟩ := t_rec tf26 hu0 (by decide) wf_60
        refine k_i (r_V C h hl (As := []) (rest := []) (s_X11_comesX l D G b0 τ f26 tf26 u0 hu0 ac hac k29 bq hbq k30 kq hkq k31 dq hdq k32 rb k33 rk k34 R28 k27 (fun k hk => by rw [hfd k hk]; unfold tr; (repeat' split) <;> exact hb9 _ (by omega)) (by omega)) r36 (Cn := RX11) (T := TX11) (N := 32) rfl rfl mk_X11_comes w_1608 w_1610 w_49 w_1611 ⟨Nat.le_of_ble_eq_true rfl, Nat.le_of_ble_eq_true rfl⟩ rfl (Nat.le_of_ble_eq_true rfl) ⟨Nat.le_of_ble_eq_true rfl, Nat.le_of_ble_eq_true rfl⟩ rfl dX11_turn_97) h (fun r37 f38 H locs p39 h => ?_)
        obtain ⟨ir37, tf38, ogf38, x0r37, ⟨ac1_f38, kpu0_10f38, ipu0_10f38, rpu0_10f38⟩, ⟨rb1_f38, kRbqf38, pRbqf38⟩, ⟨rk1_f38, kRkqf38, pRkqf38⟩⟩ := p39
        have of38 : Fr [60, 62, 63, 65, 66, 60001, 60011] τ f f38 := Fr.tr of26 ogf38 (by decide) (by decide)
        have k40 := atp.fk k30 ogf38 hu0 (by decide) (by decide)
        have k41 := atp.fk k31 ogf38 hu0 (by decide) (by decide)
        have k42 := atp.fk k32 ogf38 hu0 (by decide) (by decide)
        have k43 := atp.fr k27 ogf38 hdq (by decide)
        exact u_iret C h hr hQ (⟨ir37, tf38, of38, ⟨fun _ => (by omega), fun z_ => (z_ (by omega)).elim⟩, ⟨ac1_f38, kpu0_10f38, (iv_w ipu0_10f38 (by decide)), ⟨fun _ => (by omega), fun z_ => (z_ (by omega)).elim⟩⟩, ⟨rb1_f38, kRbqf38, (fun k hk => by
            rw [if_pos (by omega)]
            rw [pRbqf38 k hk]; exact cme_eq hfd (by omega) k hk)⟩, ⟨rk1_f38, kRkqf38, (fun k hk => by rw [if_pos (by omega)]; exact pRkqf38 k hk)⟩⟩) (Nat.le_of_ble_eq_true rfl) (Nat.le_of_ble_eq_true rfl) dX11_turn_100
      · have c4 : v39_2.toInt < 8 := Int32.lt_iff_toInt_lt.mp (iv_nle c1)
        have i5 : iv v39_2 0 7 := iv_Ll c4 iv39_2 (iv_k (x := 8) (k := 8) rfl) (by decide)
        refine lv_aload_n hx hb dX11_turn_45 rfl (lv_at hl 0 rfl) ?_
        refine t_getfd C h t_39 hu0 (by decide) wf_60 (v := .ref dq) k39_u0_5 fl_X11_13 dX11_turn_46 ?_
        refine lv_iload_n hx hb dX11_turn_49 rfl (lv_at hl 2 rfl) ?_
        refine lv_iconst (v := 4) hx hb dX11_turn_50 (by decide) ?_
        refine i_addk hx hb dX11_turn_51 i5 (k := 4) rfl (lo := 4) (hi := 11) (by decide) (fun z44 ez44 mz44 iz44 => ?_)
        refine lv_bipush (v := 8) hx hb dX11_turn_52 (by decide) ?_
        refine lv_irem hx hb dX11_turn_54 (by decide) (i_topm (P := fun q_ => q_ = Int32.toInt z44 % 8) (iv_remx (k := 8) (iv_w iz44 (by decide) : iv _ 0 11) rfl (by decide)) (fun z45 ez45 mz45 iz45 => ?_))
        refine lv_aload_n hx hb dX11_turn_55 rfl (lv_at hl 0 rfl) ?_
        refine lv_iload_n hx hb dX11_turn_56 rfl (lv_at hl 1 rfl) ?_
        refine lv_iload_n hx hb dX11_turn_57 rfl (lv_at hl 2 rfl) ?_
        obtain ⟨_, r46⟩ := t_rec t_39 hu0 (by decide) wf_60
        refine k_i (r_V C h hl (As := [.int u1, .int v39_2]) (rest := [.int z45, .ref dq]) (s_X11_weightOfX l D G b0 τ f_39 t_39 u0 hu0 u1 jv39_1 v39_2 (iv_w i5 (by decide)) bq hbq k39_u0_6 rb k39_bq_R) r46 (Cn := RX11) (T := TX11) (N := 32) rfl rfl mk_X11_weightOf w_1631 w_1633 w_52 w_1634 ⟨Nat.le_of_ble_eq_true rfl, Nat.le_of_ble_eq_true rfl⟩ rfl (Nat.le_of_ble_eq_true rfl) ⟨Nat.le_of_ble_eq_true rfl, Nat.le_of_ble_eq_true rfl⟩ rfl dX11_turn_58) h (fun r47 f48 H locs p49 h => ?_)
        obtain ⟨ir47, tf48, ogf48, x0r47, x1r47⟩ := p49
        have egf48 := Fr.nil2 ogf48
        subst egf48
        refine e_iast C h t_39 o_39 hdq (by decide) (by decide) wf_62 fw_62 k39_dq_R (iv_in iz45 (by decide)) (iv_w ir47 (by decide)) dX11_turn_61 (fun R52 f50 erR52 H locs h tf50 of50 hq hn_ k51 => ?_)
        have k53 := atp.tg k39_u0_10 hq hu0 (by decide)
        have k54 := atp.tg k39_u0_6 hq hu0 (by decide)
        have k55 := atp.tg k39_u0_8 hq hu0 (by decide)
        have k56 := atp.tg k39_u0_5 hq hu0 (by decide)
        have k57 := atp.tg k39_bq_R hq hbq (by decide)
        have k58 := atp.tg k39_kq_R hq hkq (by decide)
        refine i_inc hx hb dX11_turn_62 hl (k := 2) rfl i5 rfl (lo := 1) (hi := 8) (by decide) (by decide) (lv' := fun v => [(2, .int v), (0, .ref u0), (1, .int u1)]) (fun _ => rfl) (fun z60 ls ez60 mz60 iz60 hl => ?_)
        refine lv_goto (tgt := 39) hx hb dX11_turn_65 (by decide) ?_
        exact ih39 ls f50 H locs z60 R52 (show 8 - z60.toInt < _ by omega) (lv_cons hl 1 rfl (lv_cons hl 2 rfl (lv_cons hl 0 rfl (lv_nil hl)))) h tf50 of50 jv39_1 (iv_w iz60 (by decide)) k53 k54 k55 k56 k57 k58 k51 (show 0 ≤ u1.toInt ∧ u1.toInt < (rb 80).toInt by omega) (show (rb 80).toInt ≤ 7 by omega) (show ∀ k : Nat, R52 k = if k < 8 ∧ (((k : Int) + 4) % 8) < z60.toInt then rb (10 * u1.toInt + ((k : Int) + 4) % 8).toNat else rd k from (by
            intro k; rw [erR52]; by_cases q_ : k = z45.toInt.toNat
            · rw [upd_at q_, x0r47]; (repeat' split) <;> first | rfl | (exfalso; omega) | (exact congrArg _ (by omega)) | (exact congr (congrArg HAdd.hAdd (congrArg rb (by omega))) (congrArg rb (by omega)))
            · rw [upd_off q_, hv39_2 k]; (repeat' split) <;> first | rfl | (exfalso; omega) | (exact congrArg _ (by omega))))
  refine lv_aload_n hx hb dX11_turn_0 rfl (lv_at hl 0 rfl) ?_
  refine lv_iconst (v := 0) hx hb dX11_turn_1 (by decide) ?_
  refine t_put C h t o hu0 (by decide) (by decide) (by decide) wf_60 fw_60 (k := 0) rfl flw_X11_75 (Or.inr ⟨_, _, _, rfl, rfl⟩) (v := .int 0) rfl rfl ⟨_, rfl, ⟨by decide, by decide⟩⟩ dX11_turn_2 (fun f61 H locs h tf61 of61 hq ha_ hn_ hk_ => ?_)
  have k62 := hk_ 10 _ (by decide) k_u0_10
  have k63 := hk_ 6 _ (by decide) k_u0_6
  have k64 := hk_ 8 _ (by decide) k_u0_8
  have k65 := hk_ 5 _ (by decide) k_u0_5
  have k66 := atp.tg hRbq hq hbq (by decide)
  have k67 := atp.tg hRkq hq hkq (by decide)
  have k68 := atp.tg hRdq hq hdq (by decide)
  have k69 := ha_
  refine lv_aload_n hx hb dX11_turn_5 rfl (lv_at hl 0 rfl) ?_
  refine lv_iload_n hx hb dX11_turn_6 rfl (lv_at hl 1 rfl) ?_
  obtain ⟨_, r70⟩ := t_rec tf61 hu0 (by decide) wf_60
  refine k_i (r_V C h hl (As := [.int u1]) (rest := []) (s_X11_isSetX l D G b0 τ f61 tf61 u0 hu0 u1 hu1 bq hbq k63 rb k66) r70 (Cn := RX11) (T := TX11) (N := 32) rfl rfl mk_X11_isSet w_1620 w_1622 w_51 w_1623 ⟨Nat.le_of_ble_eq_true rfl, Nat.le_of_ble_eq_true rfl⟩ rfl (Nat.le_of_ble_eq_true rfl) ⟨Nat.le_of_ble_eq_true rfl, Nat.le_of_ble_eq_true rfl⟩ rfl dX11_turn_7) h (fun r71 f72 H locs p73 h => ?_)
  obtain ⟨ir71, tf72, ogf72, cnr71, czr71⟩ := p73
  have egf72 := Fr.nil2 ogf72
  subst egf72
  refine lv_if_ne (tgt := 19) hx hb dX11_turn_10 (by decide) (fun c74 => ?_) (fun c74 => ?_)
  · have c75 : r71.toInt ≠ 0 := fun z_ => c74 (Int32.toInt_inj.mp z_)
    have i76 : iv r71 1 1 := iv_Nl c75 ir71 (by decide)
    obtain ⟨i77, i78⟩ := cnr71 c75
    refine lv_aload_n hx hb dX11_turn_19 rfl (lv_at hl 0 rfl) ?_
    refine t_getfd C h tf61 hu0 (by decide) wf_60 (v := .ref bq) k63 fl_X11_17 dX11_turn_20 ?_
    refine lv_bipush (v := 80) hx hb dX11_turn_23 (by decide) ?_
    refine e_bk80 C h tf61 hbq (by decide) wf_63 k66 dX11_turn_25 (fun z82 ez82 iz82 => ?_)
    have mz82 := congrArg Int32.toInt ez82
    refine lv_bipush (v := 8) hx hb dX11_turn_26 (by decide) ?_
    refine lv_icmp_ne (tgt := 37) hx hb dX11_turn_28 (by decide) (fun c83 => ?_) (fun c83 => ?_)
    · have c84 : z82.toInt ≠ 8 := fun z_ => c83 (Int32.toInt_inj.mp z_)
      have i85 : iv z82 0 7 := iv_Nh c84 iz82 (by decide)
      refine lv_iconst (v := 0) hx hb dX11_turn_37 (by decide) ?_
      refine lv_istore_n (lv' := [(2, .int 0), (0, .ref u0), (1, .int u1)]) hx hb dX11_turn_38 rfl hl (by decide) rfl (fun ls hl => ?_)
      exact L39 9 ls f61 H locs 0 rd (by decide) (lv_cons hl 1 rfl (lv_cons hl 2 rfl (lv_cons hl 0 rfl (lv_nil hl)))) h tf61 of61 i77 ⟨by decide, by decide⟩ k62 k63 k64 k65 k66 k67 k68 (show 0 ≤ u1.toInt ∧ u1.toInt < (rb 80).toInt by omega) (show (rb 80).toInt ≤ 7 by omega) (show ∀ k : Nat, rd k = if k < 8 ∧ (((k : Int) + 4) % 8) < 0 then rb (10 * u1.toInt + ((k : Int) + 4) % 8).toNat else rd k from (by
          intro k; (repeat' split) <;> first | rfl | (exfalso; omega) | (exact congrArg _ (by omega))))
    · have c86 : z82.toInt = 8 := congrArg Int32.toInt c83
      have i87 : iv z82 8 8 := iv_Q c86 iz82 (iv_k (x := 8) (k := 8) rfl) (by decide)
      refine lv_aload_n hx hb dX11_turn_31 rfl (lv_at hl 0 rfl) ?_
      refine lv_iconst (v := 2) hx hb dX11_turn_32 (by decide) ?_
      obtain ⟨_, r88⟩ := t_rec tf61 hu0 (by decide) wf_60
      refine k_i (r_V C h hl (As := [.int 2]) (rest := []) (s_X11_refuse l D G b0 τ f61 tf61 u0 hu0 2 (iv_w (iv_k (x := 2) (k := 2) rfl) (by decide))) r88 (Cn := RX11) (T := TX11) (N := 32) rfl rfl mk_X11_refuse w_1604 w_1606 w_48 w_1607 ⟨Nat.le_of_ble_eq_true rfl, Nat.le_of_ble_eq_true rfl⟩ rfl (Nat.le_of_ble_eq_true rfl) ⟨Nat.le_of_ble_eq_true rfl, Nat.le_of_ble_eq_true rfl⟩ rfl dX11_turn_33) h (fun r89 f90 H locs p91 h => ?_)
      obtain ⟨ir89, tf90, ogf90⟩ := p91
      have of90 : Fr [60, 62, 63, 65, 66, 60001, 60011] τ f f90 := Fr.tr of61 ogf90 (by decide) (by decide)
      have k92 := atp.fr k62 ogf90 hu0 (by decide)
      have k93 := atp.fr k63 ogf90 hu0 (by decide)
      have k94 := atp.fr k64 ogf90 hu0 (by decide)
      have k95 := atp.fr k65 ogf90 hu0 (by decide)
      have k96 := atp.fr k66 ogf90 hbq (by decide)
      have k97 := atp.fr k67 ogf90 hkq (by decide)
      have k98 := atp.fr k68 ogf90 hdq (by decide)
      exact u_iret C h hr hQ (⟨(iv_w ir89 (by decide)), tf90, of90, ⟨fun z_ => absurd z_ (by omega), fun _ => (by omega)⟩, ⟨ac, k92, hac, ⟨fun z_ => absurd z_ (by omega), fun _ => rfl⟩⟩, ⟨rb, k96, (fun k hk => by rw [if_neg (by omega)])⟩, ⟨rk, k97, (fun k hk => by rw [if_neg (by omega)])⟩⟩) (Nat.le_of_ble_eq_true rfl) (Nat.le_of_ble_eq_true rfl) dX11_turn_36
  · have c79 : r71.toInt = 0 := congrArg Int32.toInt c74
    have i80 : iv r71 0 0 := iv_Q c79 ir71 (iv_k (x := 0) (k := 0) rfl) (by decide)
    have i81 := czr71 c79
    refine lv_aload_n hx hb dX11_turn_13 rfl (lv_at hl 0 rfl) ?_
    refine lv_iconst (v := 0) hx hb dX11_turn_14 (by decide) ?_
    obtain ⟨_, r99⟩ := t_rec tf61 hu0 (by decide) wf_60
    refine k_i (r_V C h hl (As := [.int 0]) (rest := []) (s_X11_refuse l D G b0 τ f61 tf61 u0 hu0 0 (iv_w (iv_k (x := 0) (k := 0) rfl) (by decide))) r99 (Cn := RX11) (T := TX11) (N := 32) rfl rfl mk_X11_refuse w_1604 w_1606 w_48 w_1607 ⟨Nat.le_of_ble_eq_true rfl, Nat.le_of_ble_eq_true rfl⟩ rfl (Nat.le_of_ble_eq_true rfl) ⟨Nat.le_of_ble_eq_true rfl, Nat.le_of_ble_eq_true rfl⟩ rfl dX11_turn_15) h (fun r100 f101 H locs p102 h => ?_)
    obtain ⟨ir100, tf101, ogf101⟩ := p102
    have of101 : Fr [60, 62, 63, 65, 66, 60001, 60011] τ f f101 := Fr.tr of61 ogf101 (by decide) (by decide)
    have k103 := atp.fr k62 ogf101 hu0 (by decide)
    have k104 := atp.fr k63 ogf101 hu0 (by decide)
    have k105 := atp.fr k64 ogf101 hu0 (by decide)
    have k106 := atp.fr k65 ogf101 hu0 (by decide)
    have k107 := atp.fr k66 ogf101 hbq (by decide)
    have k108 := atp.fr k67 ogf101 hkq (by decide)
    have k109 := atp.fr k68 ogf101 hdq (by decide)
    exact u_iret C h hr hQ (⟨(iv_w ir100 (by decide)), tf101, of101, ⟨fun z_ => absurd z_ (by omega), fun _ => (by omega)⟩, ⟨ac, k103, hac, ⟨fun z_ => absurd z_ (by omega), fun _ => rfl⟩⟩, ⟨rb, k107, (fun k hk => by rw [if_neg (by omega)])⟩, ⟨rk, k108, (fun k hk => by rw [if_neg (by omega)])⟩⟩) (Nat.le_of_ble_eq_true rfl) (Nat.le_of_ble_eq_true rfl) dX11_turn_18
abbrev rm_s_X11_joinX : Room := { frames := 2, cells := 0, slots := 0, locals := 46 }
set_option maxRecDepth 100000 in
set_option maxHeartbeats 4000000 in
theorem s_X11_joinX (l : Launch) (D : va_G) (G : Nat → Nat) (b0 : Nat) (τ : Nat → Nat) (f : hM) (t : TI G 9 τ f) (u0 : Nat) (hu0 : τ u0 = 60) (u1 : Int32) (hu1 : iv u1 (-2147483648) 2147483647) (u2 : Int32) (hu2 : iv u2 (-2147483648) 2147483647) (ac : Int32) (hac : iv ac 0 12) (k_u0_10 : atp f u0 (fd 10 (.int ac))) (bq : Nat) (hbq : τ bq = 63) (k_u0_6 : atp f u0 (fd 6 (.ref bq))) (kq : Nat) (hkq : τ kq = 65) (k_u0_8 : atp f u0 (fd 8 (.ref kq))) (dq : Nat) (hdq : τ dq = 62) (k_u0_5 : atp f u0 (fd 5 (.ref dq))) (rb : Nat → Int32) (hRbq : atp f bq (eqc (.inl (G 1, 81, .inl rb)))) (rk : Nat → Int32) (hRkq : atp f kq (eqc (.inl (G 1, 972, .inl rk)))) (rd : Nat → Int32) (hRdq : atp f dq (eqc (.inl (G 1, 10, .inl rd)))) (hb9 : ∀ k : Nat, k < 80 → iv (rb k) 0 9) : mI l yX11_join cX11_join 4 (.int) rm_s_X11_joinX D G b0 f [.ref u0, .int u1, .int u2] (fun r f1 => iv r (-1) 7 ∧ TI G 9 τ f1 ∧ Fr [60, 62, 63, 65, 66, 60001, 60011] τ f f1 ∧ (((((0 ≤ u1.toInt ∧ u1.toInt < (rb 80).toInt) ∧ (0 ≤ u2.toInt ∧ u2.toInt < (rb 80).toInt) ∧ (∀ s : Nat, s < 8 → (rb (10 * u1.toInt + s).toNat).toInt + (rb (10 * u2.toInt + s).toNat).toInt ≤ 9) ∧ (rb 80).toInt ≤ 7)) → r.toInt = (rb 80).toInt) ∧ (¬ (((0 ≤ u1.toInt ∧ u1.toInt < (rb 80).toInt) ∧ (0 ≤ u2.toInt ∧ u2.toInt < (rb 80).toInt) ∧ (∀ s : Nat, s < 8 → (rb (10 * u1.toInt + s).toNat).toInt + (rb (10 * u2.toInt + s).toNat).toInt ≤ 9) ∧ (rb 80).toInt ≤ 7)) → r.toInt = -1)) ∧ (∃ ac1 : Int32, atp f1 u0 (fd 10 (.int ac1)) ∧ iv ac1 0 12 ∧ ((((0 ≤ u1.toInt ∧ u1.toInt < (rb 80).toInt) ∧ (0 ≤ u2.toInt ∧ u2.toInt < (rb 80).toInt) ∧ (∀ s : Nat, s < 8 → (rb (10 * u1.toInt + s).toNat).toInt + (rb (10 * u2.toInt + s).toNat).toInt ≤ 9) ∧ (rb 80).toInt ≤ 7)) → ((ac.toInt = 12 → ac1.toInt = 12) ∧ (ac.toInt ≠ 12 → ac1.toInt = ac.toInt + 1))) ∧ (¬ (((0 ≤ u1.toInt ∧ u1.toInt < (rb 80).toInt) ∧ (0 ≤ u2.toInt ∧ u2.toInt < (rb 80).toInt) ∧ (∀ s : Nat, s < 8 → (rb (10 * u1.toInt + s).toNat).toInt + (rb (10 * u2.toInt + s).toNat).toInt ≤ 9) ∧ (rb 80).toInt ≤ 7)) → ac1.toInt = ac.toInt)) ∧ (∃ rb1 : Nat → Int32, atp f1 bq (eqc (.inl (G 1, 81, .inl rb1))) ∧ (∀ k : Nat, k < 81 → rb1 k = if ((0 ≤ u1.toInt ∧ u1.toInt < (rb 80).toInt) ∧ (0 ≤ u2.toInt ∧ u2.toInt < (rb 80).toInt) ∧ (∀ s : Nat, s < 8 → (rb (10 * u1.toInt + s).toNat).toInt + (rb (10 * u2.toInt + s).toNat).toInt ≤ 9) ∧ (rb 80).toInt ≤ 7) then cm rb (jo rb u1.toInt u2.toInt) k else rb k)) ∧ (∃ rk1 : Nat → Int32, atp f1 kq (eqc (.inl (G 1, 972, .inl rk1))) ∧ (∀ k : Nat, k < 972 → rk1 k = if ((0 ≤ u1.toInt ∧ u1.toInt < (rb 80).toInt) ∧ (0 ≤ u2.toInt ∧ u2.toInt < (rb 80).toInt) ∧ (∀ s : Nat, s < 8 → (rb (10 * u1.toInt + s).toNat).toInt + (rb (10 * u2.toInt + s).toNat).toInt ≤ 9) ∧ (rb 80).toInt ≤ 7) then kp rk rb ac.toInt k else rk k))) := by
  refine met2 (own := RX11) (by decide) rfl (Nat.le_of_ble_eq_true rfl) ?_
  intro p e s m args below meth c ls Q hQ C hr hini hl h
  have hl : lv_has ls 4 [(0, .ref u0), (1, .int u1), (2, .int u2)] := hl
  obtain ⟨hx, hb, hml, hown, hts, hE0, hlk⟩ := id C
  have o := Fr.rf [60, 62, 63, 65, 66, 60001, 60011] τ f
  have L29 : ∀ (n29 : Nat) (ls : Array Slot) (f_29 : hM) (H : Heap) (locs : List Loc) (v29_3 : Int32) (g29_dq_R : Nat → Int32), 8 - v29_3.toInt < (n29 : Int) → lv_has ls 4 [(0, .ref u0), (1, .int u1), (2, .int u2), (3, .int v29_3)] → hw D b0 s.heap f_29 H locs → TI G 9 τ f_29 → Fr [60, 62, 63, 65, 66, 60001, 60011] τ f f_29 → iv u1 0 7 → iv u2 0 7 → iv v29_3 0 8 → atp f_29 u0 (fd 10 (.int ac)) → atp f_29 u0 (fd 6 (.ref bq)) → atp f_29 u0 (fd 8 (.ref kq)) → atp f_29 u0 (fd 5 (.ref dq)) → atp f_29 bq (eqc (.inl (G 1, 81, .inl rb))) → atp f_29 kq (eqc (.inl (G 1, 972, .inl rk))) → atp f_29 dq (eqc (.inl (G 1, 10, .inl g29_dq_R))) → (0 ≤ u1.toInt ∧ u1.toInt < (rb 80).toInt) ∧ (0 ≤ u2.toInt ∧ u2.toInt < (rb 80).toInt) → (∀ s : Nat, (s : Int) < v29_3.toInt → (rb (10 * u1.toInt + s).toNat).toInt + (rb (10 * u2.toInt + s).toNat).toInt ≤ 9) → (∀ k : Nat, g29_dq_R k = if (k : Int) < v29_3.toInt then rb (10 * u1.toInt + k).toNat + rb (10 * u2.toInt + k).toNat else rd k) → W p l e rm_s_X11_joinX s m args below meth c H locs 0 0 Q (F0 m 29 ls []) := by
    intro n29
    induction n29 with
    | zero => intro ls f_29 H locs v29_3 g29_dq_R hm29 hl h t_29 o_29 jv29_1 jv29_2 iv29_3 k29_u0_10 k29_u0_6 k29_u0_8 k29_u0_5 k29_bq_R k29_kq_R k29_dq_R hv29_0 hv29_1 hv29_2; exact absurd hm29 (by omega)
    | succ n29 ih29 =>
      intro ls f_29 H locs v29_3 g29_dq_R hm29 hl h t_29 o_29 jv29_1 jv29_2 iv29_3 k29_u0_10 k29_u0_6 k29_u0_8 k29_u0_5 k29_bq_R k29_kq_R k29_dq_R hv29_0 hv29_1 hv29_2
      refine lv_iload_n hx hb dX11_join_29 rfl (lv_at hl 3 rfl) ?_
      refine lv_bipush (v := 8) hx hb dX11_join_30 (by decide) ?_
      refine lv_icmp_ge (tgt := 77) hx hb dX11_join_32 (by decide) (fun c1 => ?_) (fun c1 => ?_)
      · have c2 : 8 ≤ v29_3.toInt := Int32.le_iff_toInt_le.mp c1
        have i3 : iv v29_3 8 8 := iv_Er c2 (iv_k (x := 8) (k := 8) rfl) iv29_3 (by decide)
        refine lv_aload_n hx hb dX11_join_77 rfl (lv_at hl 0 rfl) ?_
        refine t_getfd C h t_29 hu0 (by decide) wf_60 (v := .ref bq) k29_u0_6 fl_X11_17 dX11_join_78 ?_
        refine lv_bipush (v := 80) hx hb dX11_join_81 (by decide) ?_
        refine e_bk80 C h t_29 hbq (by decide) wf_63 k29_bq_R dX11_join_83 (fun z6 ez6 iz6 => ?_)
        have mz6 := congrArg Int32.toInt ez6
        refine lv_bipush (v := 8) hx hb dX11_join_84 (by decide) ?_
        refine lv_icmp_ne (tgt := 95) hx hb dX11_join_86 (by decide) (fun c7 => ?_) (fun c7 => ?_)
        · have c8 : z6.toInt ≠ 8 := fun z_ => c7 (Int32.toInt_inj.mp z_)
          have i9 : iv z6 0 7 := iv_Nh c8 iz6 (by decide)
          refine lv_aload_n hx hb dX11_join_95 rfl (lv_at hl 0 rfl) ?_
          refine t_getfd C h t_29 hu0 (by decide) wf_60 (v := .ref dq) k29_u0_5 fl_X11_13 dX11_join_96 ?_
          refine lv_bipush (v := 8) hx hb dX11_join_99 (by decide) ?_
          refine lv_aload_n hx hb dX11_join_101 rfl (lv_at hl 0 rfl) ?_
          refine lv_iload_n hx hb dX11_join_102 rfl (lv_at hl 1 rfl) ?_
          refine lv_bipush (v := 8) hx hb dX11_join_103 (by decide) ?_
          obtain ⟨_, r12⟩ := t_rec t_29 hu0 (by decide) wf_60
          refine k_i (r_V C h hl (As := [.int u1, .int 8]) (rest := [.int 8, .ref dq]) (s_X11_weightOfX l D G b0 τ f_29 t_29 u0 hu0 u1 jv29_1 8 (iv_w (iv_k (x := 8) (k := 8) rfl) (by decide)) bq hbq k29_u0_6 rb k29_bq_R) r12 (Cn := RX11) (T := TX11) (N := 32) rfl rfl mk_X11_weightOf w_1631 w_1633 w_52 w_1634 ⟨Nat.le_of_ble_eq_true rfl, Nat.le_of_ble_eq_true rfl⟩ rfl (Nat.le_of_ble_eq_true rfl) ⟨Nat.le_of_ble_eq_true rfl, Nat.le_of_ble_eq_true rfl⟩ rfl dX11_join_105) h (fun r13 f14 H locs p15 h => ?_)
          have n16 : (8 : Int32).toInt = 8 := rfl
          obtain ⟨ir13, tf14, ogf14, x0r13, x1r13⟩ := p15
          have x0r13 : r13 = (rb (10 * u1.toInt + 8).toNat) := x0r13
          have x1r13 : r13.toInt = (rb (10 * u1.toInt + 8).toNat).toInt := x1r13
          have egf14 := Fr.nil2 ogf14
          subst egf14
          refine e_iast C h t_29 o_29 hdq (by decide) (by decide) wf_62 fw_62 k29_dq_R (by unfold vp_in; decide) (iv_w ir13 (by decide)) dX11_join_108 (fun R19 f17 erR19 H locs h tf17 of17 hq hn_ k18 => ?_)
          have erR19 : R19 = upd g29_dq_R 8 r13 := erR19
          have k20 := atp.tg k29_u0_10 hq hu0 (by decide)
          have k21 := atp.tg k29_u0_6 hq hu0 (by decide)
          have k22 := atp.tg k29_u0_8 hq hu0 (by decide)
          have k23 := atp.tg k29_u0_5 hq hu0 (by decide)
          have k24 := atp.tg k29_bq_R hq hbq (by decide)
          have k25 := atp.tg k29_kq_R hq hkq (by decide)
          refine lv_aload_n hx hb dX11_join_109 rfl (lv_at hl 0 rfl) ?_
          refine t_getfd C h tf17 hu0 (by decide) wf_60 (v := .ref dq) k23 fl_X11_13 dX11_join_110 ?_
          refine lv_bipush (v := 9) hx hb dX11_join_113 (by decide) ?_
          refine lv_aload_n hx hb dX11_join_115 rfl (lv_at hl 0 rfl) ?_
          refine lv_iload_n hx hb dX11_join_116 rfl (lv_at hl 1 rfl) ?_
          refine lv_bipush (v := 9) hx hb dX11_join_117 (by decide) ?_
          obtain ⟨_, r27⟩ := t_rec tf17 hu0 (by decide) wf_60
          refine k_i (r_V C h hl (As := [.int u1, .int 9]) (rest := [.int 9, .ref dq]) (s_X11_weightOfX l D G b0 τ f17 tf17 u0 hu0 u1 jv29_1 9 (iv_w (iv_k (x := 9) (k := 9) rfl) (by decide)) bq hbq k21 rb k24) r27 (Cn := RX11) (T := TX11) (N := 32) rfl rfl mk_X11_weightOf w_1631 w_1633 w_52 w_1634 ⟨Nat.le_of_ble_eq_true rfl, Nat.le_of_ble_eq_true rfl⟩ rfl (Nat.le_of_ble_eq_true rfl) ⟨Nat.le_of_ble_eq_true rfl, Nat.le_of_ble_eq_true rfl⟩ rfl dX11_join_119) h (fun r28 f29 H locs p30 h => ?_)
          have n31 : (9 : Int32).toInt = 9 := rfl
          obtain ⟨ir28, tf29, ogf29, x0r28, x1r28⟩ := p30
          have x0r28 : r28 = (rb (10 * u1.toInt + 9).toNat) := x0r28
          have x1r28 : r28.toInt = (rb (10 * u1.toInt + 9).toNat).toInt := x1r28
          have egf29 := Fr.nil2 ogf29
          subst egf29
          refine e_iast C h tf17 of17 hdq (by decide) (by decide) wf_62 fw_62 k18 (by unfold vp_in; decide) (iv_w ir28 (by decide)) dX11_join_122 (fun R34 f32 erR34 H locs h tf32 of32 hq hn_ k33 => ?_)
          have erR34 : R34 = upd R19 9 r28 := erR34
          have k35 := atp.tg k20 hq hu0 (by decide)
          have k36 := atp.tg k21 hq hu0 (by decide)
          have k37 := atp.tg k22 hq hu0 (by decide)
          have k38 := atp.tg k23 hq hu0 (by decide)
          have k39 := atp.tg k24 hq hbq (by decide)
          have k40 := atp.tg k25 hq hkq (by decide)
          refine lv_aload_n hx hb dX11_join_123 rfl (lv_at hl 0 rfl) ?_
          have hfd : ∀ k : Nat, k < 10 → R34 k = jo rb u1.toInt u2.toInt k := fun k hk => by
            rw [erR34, erR19]; unfold jo
            by_cases q9 : k = 9
            · rw [upd_at q9, x0r28]; (repeat' split) <;> first | rfl | (exfalso; omega) | (exact congrArg _ (by omega))
            · rw [upd_off q9]; by_cases q8 : k = 8
              · rw [upd_at q8, x0r13]; (repeat' split) <;> first | rfl | (exfalso; omega) | (exact congrArg _ (by omega))
              · rw [upd_off q8, hv29_2 k]; (repeat' split) <;> first | rfl | (exfalso; omega) | (exact congrArg _ (by omega))
          obtain ⟨_, r42⟩ := t_rec tf32 hu0 (by decide) wf_60
          refine k_i (r_V C h hl (As := []) (rest := []) (s_X11_comesX l D G b0 τ f32 tf32 u0 hu0 ac hac k35 bq hbq k36 kq hkq k37 dq hdq k38 rb k39 rk k40 R34 k33 (fun k hk => by
              rw [hfd k hk]; unfold jo; (repeat' split)
              · have := hv29_1 k (by omega); have h1_ := hb9 (10 * u1.toInt + k).toNat (by omega); have h2_ := hb9 (10 * u2.toInt + k).toNat (by omega); rw [iv, iv_addE h1_ h2_ (by decide)]; omega
              · exact hb9 _ (by omega)) (by omega)) r42 (Cn := RX11) (T := TX11) (N := 32) rfl rfl mk_X11_comes w_1608 w_1610 w_49 w_1611 ⟨Nat.le_of_ble_eq_true rfl, Nat.le_of_ble_eq_true rfl⟩ rfl (Nat.le_of_ble_eq_true rfl) ⟨Nat.le_of_ble_eq_true rfl, Nat.le_of_ble_eq_true rfl⟩ rfl dX11_join_124) h (fun r43 f44 H locs p45 h => ?_)
          obtain ⟨ir43, tf44, ogf44, x0r43, ⟨ac1_f44, kpu0_10f44, ipu0_10f44, rpu0_10f44⟩, ⟨rb1_f44, kRbqf44, pRbqf44⟩, ⟨rk1_f44, kRkqf44, pRkqf44⟩⟩ := p45
          have of44 : Fr [60, 62, 63, 65, 66, 60001, 60011] τ f f44 := Fr.tr of32 ogf44 (by decide) (by decide)
          have k46 := atp.fk k36 ogf44 hu0 (by decide) (by decide)
          have k47 := atp.fk k37 ogf44 hu0 (by decide) (by decide)
          have k48 := atp.fk k38 ogf44 hu0 (by decide) (by decide)
          have k49 := atp.fr k33 ogf44 hdq (by decide)
          exact u_iret C h hr hQ (⟨ir43, tf44, of44, ⟨fun _ => (by omega), fun z_ => (z_ ⟨by omega, by omega, fun s hs => hv29_1 s (by omega), by omega⟩).elim⟩, ⟨ac1_f44, kpu0_10f44, (iv_w ipu0_10f44 (by decide)), ⟨fun _ => (by omega), fun z_ => (z_ ⟨by omega, by omega, fun s hs => hv29_1 s (by omega), by omega⟩).elim⟩⟩, ⟨rb1_f44, kRbqf44, (fun k hk => by
              rw [if_pos ⟨by omega, by omega, fun s hs => hv29_1 s (by omega), by omega⟩]
              rw [pRbqf44 k hk]; exact cme_eq hfd (by omega) k hk)⟩, ⟨rk1_f44, kRkqf44, (fun k hk => by rw [if_pos ⟨by omega, by omega, fun s hs => hv29_1 s (by omega), by omega⟩]; exact pRkqf44 k hk)⟩⟩) (Nat.le_of_ble_eq_true rfl) (Nat.le_of_ble_eq_true rfl) dX11_join_127
        · have c10 : z6.toInt = 8 := congrArg Int32.toInt c7
          have i11 : iv z6 8 8 := iv_Q c10 iz6 (iv_k (x := 8) (k := 8) rfl) (by decide)
          refine lv_aload_n hx hb dX11_join_89 rfl (lv_at hl 0 rfl) ?_
          refine lv_iconst (v := 2) hx hb dX11_join_90 (by decide) ?_
          obtain ⟨_, r50⟩ := t_rec t_29 hu0 (by decide) wf_60
          refine k_i (r_V C h hl (As := [.int 2]) (rest := []) (s_X11_refuse l D G b0 τ f_29 t_29 u0 hu0 2 (iv_w (iv_k (x := 2) (k := 2) rfl) (by decide))) r50 (Cn := RX11) (T := TX11) (N := 32) rfl rfl mk_X11_refuse w_1604 w_1606 w_48 w_1607 ⟨Nat.le_of_ble_eq_true rfl, Nat.le_of_ble_eq_true rfl⟩ rfl (Nat.le_of_ble_eq_true rfl) ⟨Nat.le_of_ble_eq_true rfl, Nat.le_of_ble_eq_true rfl⟩ rfl dX11_join_91) h (fun r51 f52 H locs p53 h => ?_)
          obtain ⟨ir51, tf52, ogf52⟩ := p53
          have of52 : Fr [60, 62, 63, 65, 66, 60001, 60011] τ f f52 := Fr.tr o_29 ogf52 (by decide) (by decide)
          have k54 := atp.fr k29_u0_10 ogf52 hu0 (by decide)
          have k55 := atp.fr k29_u0_6 ogf52 hu0 (by decide)
          have k56 := atp.fr k29_u0_8 ogf52 hu0 (by decide)
          have k57 := atp.fr k29_u0_5 ogf52 hu0 (by decide)
          have k58 := atp.fr k29_bq_R ogf52 hbq (by decide)
          have k59 := atp.fr k29_kq_R ogf52 hkq (by decide)
          have k60 := atp.fr k29_dq_R ogf52 hdq (by decide)
          exact u_iret C h hr hQ (⟨(iv_w ir51 (by decide)), tf52, of52, ⟨fun z_ => absurd z_ (by omega), fun _ => (by omega)⟩, ⟨ac, k54, hac, ⟨fun z_ => absurd z_ (by omega), fun _ => rfl⟩⟩, ⟨rb, k58, (fun k hk => by rw [if_neg (by omega)])⟩, ⟨rk, k59, (fun k hk => by rw [if_neg (by omega)])⟩⟩) (Nat.le_of_ble_eq_true rfl) (Nat.le_of_ble_eq_true rfl) dX11_join_94
      · have c4 : v29_3.toInt < 8 := Int32.lt_iff_toInt_lt.mp (iv_nle c1)
        have i5 : iv v29_3 0 7 := iv_Ll c4 iv29_3 (iv_k (x := 8) (k := 8) rfl) (by decide)
        refine lv_aload_n hx hb dX11_join_35 rfl (lv_at hl 0 rfl) ?_
        refine t_getfd C h t_29 hu0 (by decide) wf_60 (v := .ref dq) k29_u0_5 fl_X11_13 dX11_join_36 ?_
        refine lv_iload_n hx hb dX11_join_39 rfl (lv_at hl 3 rfl) ?_
        refine lv_aload_n hx hb dX11_join_40 rfl (lv_at hl 0 rfl) ?_
        refine lv_iload_n hx hb dX11_join_41 rfl (lv_at hl 1 rfl) ?_
        refine lv_iload_n hx hb dX11_join_42 rfl (lv_at hl 3 rfl) ?_
        obtain ⟨_, r61⟩ := t_rec t_29 hu0 (by decide) wf_60
        refine k_i (r_V C h hl (As := [.int u1, .int v29_3]) (rest := [.int v29_3, .ref dq]) (s_X11_weightOfX l D G b0 τ f_29 t_29 u0 hu0 u1 jv29_1 v29_3 (iv_w i5 (by decide)) bq hbq k29_u0_6 rb k29_bq_R) r61 (Cn := RX11) (T := TX11) (N := 32) rfl rfl mk_X11_weightOf w_1631 w_1633 w_52 w_1634 ⟨Nat.le_of_ble_eq_true rfl, Nat.le_of_ble_eq_true rfl⟩ rfl (Nat.le_of_ble_eq_true rfl) ⟨Nat.le_of_ble_eq_true rfl, Nat.le_of_ble_eq_true rfl⟩ rfl dX11_join_43) h (fun r62 f63 H locs p64 h => ?_)
        obtain ⟨ir62, tf63, ogf63, x0r62, x1r62⟩ := p64
        have egf63 := Fr.nil2 ogf63
        subst egf63
        refine lv_aload_n hx hb dX11_join_46 rfl (lv_at hl 0 rfl) ?_
        refine lv_iload_n hx hb dX11_join_47 rfl (lv_at hl 2 rfl) ?_
        refine lv_iload_n hx hb dX11_join_48 rfl (lv_at hl 3 rfl) ?_
        obtain ⟨_, r65⟩ := t_rec t_29 hu0 (by decide) wf_60
        refine k_i (r_V C h hl (As := [.int u2, .int v29_3]) (rest := [.int r62, .int v29_3, .ref dq]) (s_X11_weightOfX l D G b0 τ f_29 t_29 u0 hu0 u2 jv29_2 v29_3 (iv_w i5 (by decide)) bq hbq k29_u0_6 rb k29_bq_R) r65 (Cn := RX11) (T := TX11) (N := 32) rfl rfl mk_X11_weightOf w_1631 w_1633 w_52 w_1634 ⟨Nat.le_of_ble_eq_true rfl, Nat.le_of_ble_eq_true rfl⟩ rfl (Nat.le_of_ble_eq_true rfl) ⟨Nat.le_of_ble_eq_true rfl, Nat.le_of_ble_eq_true rfl⟩ rfl dX11_join_49) h (fun r66 f67 H locs p68 h => ?_)
        obtain ⟨ir66, tf67, ogf67, x0r66, x1r66⟩ := p68
        have egf67 := Fr.nil2 ogf67
        subst egf67
        refine i_add hx hb dX11_join_52 ir62 ir66 (lo := 0) (hi := 18) (by decide) (fun z69 ez69 mz69 iz69 => ?_)
        refine e_iast C h t_29 o_29 hdq (by decide) (by decide) wf_62 fw_62 k29_dq_R (iv_in i5 (by decide)) (iv_w iz69 (by decide)) dX11_join_53 (fun R72 f70 erR72 H locs h tf70 of70 hq hn_ k71 => ?_)
        have k73 := atp.tg k29_u0_10 hq hu0 (by decide)
        have k74 := atp.tg k29_u0_6 hq hu0 (by decide)
        have k75 := atp.tg k29_u0_8 hq hu0 (by decide)
        have k76 := atp.tg k29_u0_5 hq hu0 (by decide)
        have k77 := atp.tg k29_bq_R hq hbq (by decide)
        have k78 := atp.tg k29_kq_R hq hkq (by decide)
        refine lv_aload_n hx hb dX11_join_54 rfl (lv_at hl 0 rfl) ?_
        refine t_getfd C h tf70 hu0 (by decide) wf_60 (v := .ref dq) k76 fl_X11_13 dX11_join_55 ?_
        refine lv_iload_n hx hb dX11_join_58 rfl (lv_at hl 3 rfl) ?_
        refine e_iald C h tf70 hdq (by decide) wf_62 k71 (iv_in i5 (by decide)) dX11_join_59 (fun z80 ez80 iz80 => ?_)
        have mz80 := congrArg Int32.toInt ez80
        have mj : z80.toInt = z69.toInt := by rw [ez80, erR72, upd_at rfl]
        refine lv_bipush (v := 9) hx hb dX11_join_60 (by decide) ?_
        refine lv_icmp_le (tgt := 71) hx hb dX11_join_62 (by decide) (fun c81 => ?_) (fun c81 => ?_)
        · have c82 : z80.toInt ≤ 9 := Int32.le_iff_toInt_le.mp c81
          have i83 : iv z80 (-2147483648) 9 := iv_El c82 iz80 (iv_k (x := 9) (k := 9) rfl) (by decide)
          refine i_inc hx hb dX11_join_71 hl (k := 3) rfl i5 rfl (lo := 1) (hi := 8) (by decide) (by decide) (lv' := fun v => [(3, .int v), (0, .ref u0), (1, .int u1), (2, .int u2)]) (fun _ => rfl) (fun z86 ls ez86 mz86 iz86 hl => ?_)
          refine lv_goto (tgt := 29) hx hb dX11_join_74 (by decide) ?_
          exact ih29 ls f70 H locs z86 R72 (show 8 - z86.toInt < _ by omega) (lv_cons hl 1 rfl (lv_cons hl 2 rfl (lv_cons hl 3 rfl (lv_cons hl 0 rfl (lv_nil hl))))) h tf70 of70 jv29_1 jv29_2 (iv_w iz86 (by decide)) k73 k74 k75 k76 k77 k78 k71 (show (0 ≤ u1.toInt ∧ u1.toInt < (rb 80).toInt) ∧ (0 ≤ u2.toInt ∧ u2.toInt < (rb 80).toInt) by omega) (show ∀ s : Nat, (s : Int) < z86.toInt → (rb (10 * u1.toInt + s).toNat).toInt + (rb (10 * u2.toInt + s).toNat).toInt ≤ 9 from (fun s hs => by
              by_cases q_ : (s : Int) < v29_3.toInt
              · exact hv29_1 s q_
              · rw [show (s : Int) = v29_3.toInt by omega]; omega)) (show ∀ k : Nat, R72 k = if (k : Int) < z86.toInt then rb (10 * u1.toInt + k).toNat + rb (10 * u2.toInt + k).toNat else rd k from (by
              intro k; rw [erR72]; by_cases q_ : k = v29_3.toInt.toNat
              · rw [upd_at q_, ez69, x0r62, x0r66]; (repeat' split) <;> first | rfl | (exfalso; omega) | (exact congrArg _ (by omega)) | (exact congr (congrArg HAdd.hAdd (congrArg rb (by omega))) (congrArg rb (by omega)))
              · rw [upd_off q_, hv29_2 k]; (repeat' split) <;> first | rfl | (exfalso; omega) | (exact congrArg _ (by omega))))
        · have c84 : 9 < z80.toInt := Int32.lt_iff_toInt_lt.mp (iv_nle c81)
          have i85 : iv z80 10 2147483647 := iv_Lr c84 (iv_k (x := 9) (k := 9) rfl) iz80 (by decide)
          refine lv_aload_n hx hb dX11_join_65 rfl (lv_at hl 0 rfl) ?_
          refine lv_iconst (v := 1) hx hb dX11_join_66 (by decide) ?_
          obtain ⟨_, r87⟩ := t_rec tf70 hu0 (by decide) wf_60
          refine k_i (r_V C h hl (As := [.int 1]) (rest := []) (s_X11_refuse l D G b0 τ f70 tf70 u0 hu0 1 (iv_w (iv_k (x := 1) (k := 1) rfl) (by decide))) r87 (Cn := RX11) (T := TX11) (N := 32) rfl rfl mk_X11_refuse w_1604 w_1606 w_48 w_1607 ⟨Nat.le_of_ble_eq_true rfl, Nat.le_of_ble_eq_true rfl⟩ rfl (Nat.le_of_ble_eq_true rfl) ⟨Nat.le_of_ble_eq_true rfl, Nat.le_of_ble_eq_true rfl⟩ rfl dX11_join_67) h (fun r88 f89 H locs p90 h => ?_)
          obtain ⟨ir88, tf89, ogf89⟩ := p90
          have of89 : Fr [60, 62, 63, 65, 66, 60001, 60011] τ f f89 := Fr.tr of70 ogf89 (by decide) (by decide)
          have k91 := atp.fr k73 ogf89 hu0 (by decide)
          have k92 := atp.fr k74 ogf89 hu0 (by decide)
          have k93 := atp.fr k75 ogf89 hu0 (by decide)
          have k94 := atp.fr k76 ogf89 hu0 (by decide)
          have k95 := atp.fr k77 ogf89 hbq (by decide)
          have k96 := atp.fr k78 ogf89 hkq (by decide)
          have k97 := atp.fr k71 ogf89 hdq (by decide)
          exact u_iret C h hr hQ (⟨(iv_w ir88 (by decide)), tf89, of89, ⟨fun z_ => absurd z_ (fun z_ => by have h_ := z_.2.2.1 v29_3.toInt.toNat (by omega); rw [show ((v29_3.toInt.toNat : Nat) : Int) = v29_3.toInt by omega] at h_; omega), fun _ => (by omega)⟩, ⟨ac, k91, hac, ⟨fun z_ => absurd z_ (fun z_ => by have h_ := z_.2.2.1 v29_3.toInt.toNat (by omega); rw [show ((v29_3.toInt.toNat : Nat) : Int) = v29_3.toInt by omega] at h_; omega), fun _ => rfl⟩⟩, ⟨rb, k95, (fun k hk => by rw [if_neg (fun z_ => by have h_ := z_.2.2.1 v29_3.toInt.toNat (by omega); rw [show ((v29_3.toInt.toNat : Nat) : Int) = v29_3.toInt by omega] at h_; omega)])⟩, ⟨rk, k96, (fun k hk => by rw [if_neg (fun z_ => by have h_ := z_.2.2.1 v29_3.toInt.toNat (by omega); rw [show ((v29_3.toInt.toNat : Nat) : Int) = v29_3.toInt by omega] at h_; omega)])⟩⟩) (Nat.le_of_ble_eq_true rfl) (Nat.le_of_ble_eq_true rfl) dX11_join_70
  refine lv_aload_n hx hb dX11_join_0 rfl (lv_at hl 0 rfl) ?_
  refine lv_iconst (v := 0) hx hb dX11_join_1 (by decide) ?_
  refine t_put C h t o hu0 (by decide) (by decide) (by decide) wf_60 fw_60 (k := 0) rfl flw_X11_75 (Or.inr ⟨_, _, _, rfl, rfl⟩) (v := .int 0) rfl rfl ⟨_, rfl, ⟨by decide, by decide⟩⟩ dX11_join_2 (fun f98 H locs h tf98 of98 hq ha_ hn_ hk_ => ?_)
  have k99 := hk_ 10 _ (by decide) k_u0_10
  have k100 := hk_ 6 _ (by decide) k_u0_6
  have k101 := hk_ 8 _ (by decide) k_u0_8
  have k102 := hk_ 5 _ (by decide) k_u0_5
  have k103 := atp.tg hRbq hq hbq (by decide)
  have k104 := atp.tg hRkq hq hkq (by decide)
  have k105 := atp.tg hRdq hq hdq (by decide)
  have k106 := ha_
  refine lv_aload_n hx hb dX11_join_5 rfl (lv_at hl 0 rfl) ?_
  refine lv_iload_n hx hb dX11_join_6 rfl (lv_at hl 1 rfl) ?_
  obtain ⟨_, r107⟩ := t_rec tf98 hu0 (by decide) wf_60
  refine k_i (r_V C h hl (As := [.int u1]) (rest := []) (s_X11_isSetX l D G b0 τ f98 tf98 u0 hu0 u1 hu1 bq hbq k100 rb k103) r107 (Cn := RX11) (T := TX11) (N := 32) rfl rfl mk_X11_isSet w_1620 w_1622 w_51 w_1623 ⟨Nat.le_of_ble_eq_true rfl, Nat.le_of_ble_eq_true rfl⟩ rfl (Nat.le_of_ble_eq_true rfl) ⟨Nat.le_of_ble_eq_true rfl, Nat.le_of_ble_eq_true rfl⟩ rfl dX11_join_7) h (fun r108 f109 H locs p110 h => ?_)
  obtain ⟨ir108, tf109, ogf109, cnr108, czr108⟩ := p110
  have egf109 := Fr.nil2 ogf109
  subst egf109
  refine lv_if_eq (tgt := 21) hx hb dX11_join_10 (by decide) (fun c111 => ?_) (fun c111 => ?_)
  · have c112 : r108.toInt = 0 := congrArg Int32.toInt c111
    have i113 : iv r108 0 0 := iv_Q c112 ir108 (iv_k (x := 0) (k := 0) rfl) (by decide)
    have i114 := czr108 c112
    refine lv_aload_n hx hb dX11_join_21 rfl (lv_at hl 0 rfl) ?_
    refine lv_iconst (v := 0) hx hb dX11_join_22 (by decide) ?_
    obtain ⟨_, r119⟩ := t_rec tf98 hu0 (by decide) wf_60
    refine k_i (r_V C h hl (As := [.int 0]) (rest := []) (s_X11_refuse l D G b0 τ f98 tf98 u0 hu0 0 (iv_w (iv_k (x := 0) (k := 0) rfl) (by decide))) r119 (Cn := RX11) (T := TX11) (N := 32) rfl rfl mk_X11_refuse w_1604 w_1606 w_48 w_1607 ⟨Nat.le_of_ble_eq_true rfl, Nat.le_of_ble_eq_true rfl⟩ rfl (Nat.le_of_ble_eq_true rfl) ⟨Nat.le_of_ble_eq_true rfl, Nat.le_of_ble_eq_true rfl⟩ rfl dX11_join_23) h (fun r120 f121 H locs p122 h => ?_)
    obtain ⟨ir120, tf121, ogf121⟩ := p122
    have of121 : Fr [60, 62, 63, 65, 66, 60001, 60011] τ f f121 := Fr.tr of98 ogf121 (by decide) (by decide)
    have k123 := atp.fr k99 ogf121 hu0 (by decide)
    have k124 := atp.fr k100 ogf121 hu0 (by decide)
    have k125 := atp.fr k101 ogf121 hu0 (by decide)
    have k126 := atp.fr k102 ogf121 hu0 (by decide)
    have k127 := atp.fr k103 ogf121 hbq (by decide)
    have k128 := atp.fr k104 ogf121 hkq (by decide)
    have k129 := atp.fr k105 ogf121 hdq (by decide)
    exact u_iret C h hr hQ (⟨(iv_w ir120 (by decide)), tf121, of121, ⟨fun z_ => absurd z_ (by omega), fun _ => (by omega)⟩, ⟨ac, k123, hac, ⟨fun z_ => absurd z_ (by omega), fun _ => rfl⟩⟩, ⟨rb, k127, (fun k hk => by rw [if_neg (by omega)])⟩, ⟨rk, k128, (fun k hk => by rw [if_neg (by omega)])⟩⟩) (Nat.le_of_ble_eq_true rfl) (Nat.le_of_ble_eq_true rfl) dX11_join_26
  · have c115 : r108.toInt ≠ 0 := fun z_ => c111 (Int32.toInt_inj.mp z_)
    have i116 : iv r108 1 1 := iv_Nl c115 ir108 (by decide)
    obtain ⟨i117, i118⟩ := cnr108 c115
    refine lv_aload_n hx hb dX11_join_13 rfl (lv_at hl 0 rfl) ?_
    refine lv_iload_n hx hb dX11_join_14 rfl (lv_at hl 2 rfl) ?_
    obtain ⟨_, r130⟩ := t_rec tf98 hu0 (by decide) wf_60
    refine k_i (r_V C h hl (As := [.int u2]) (rest := []) (s_X11_isSetX l D G b0 τ f98 tf98 u0 hu0 u2 hu2 bq hbq k100 rb k103) r130 (Cn := RX11) (T := TX11) (N := 32) rfl rfl mk_X11_isSet w_1620 w_1622 w_51 w_1623 ⟨Nat.le_of_ble_eq_true rfl, Nat.le_of_ble_eq_true rfl⟩ rfl (Nat.le_of_ble_eq_true rfl) ⟨Nat.le_of_ble_eq_true rfl, Nat.le_of_ble_eq_true rfl⟩ rfl dX11_join_15) h (fun r131 f132 H locs p133 h => ?_)
    obtain ⟨ir131, tf132, ogf132, cnr131, czr131⟩ := p133
    have egf132 := Fr.nil2 ogf132
    subst egf132
    refine lv_if_ne (tgt := 27) hx hb dX11_join_18 (by decide) (fun c134 => ?_) (fun c134 => ?_)
    · have c135 : r131.toInt ≠ 0 := fun z_ => c134 (Int32.toInt_inj.mp z_)
      have i136 : iv r131 1 1 := iv_Nl c135 ir131 (by decide)
      obtain ⟨i137, i138⟩ := cnr131 c135
      refine lv_iconst (v := 0) hx hb dX11_join_27 (by decide) ?_
      refine lv_istore_n (lv' := [(3, .int 0), (0, .ref u0), (1, .int u1), (2, .int u2)]) hx hb dX11_join_28 rfl hl (by decide) rfl (fun ls hl => ?_)
      exact L29 9 ls f98 H locs 0 rd (by decide) (lv_cons hl 1 rfl (lv_cons hl 2 rfl (lv_cons hl 3 rfl (lv_cons hl 0 rfl (lv_nil hl))))) h tf98 of98 i117 i137 ⟨by decide, by decide⟩ k99 k100 k101 k102 k103 k104 k105 (show (0 ≤ u1.toInt ∧ u1.toInt < (rb 80).toInt) ∧ (0 ≤ u2.toInt ∧ u2.toInt < (rb 80).toInt) by omega) (show ∀ s : Nat, (s : Int) < 0 → (rb (10 * u1.toInt + s).toNat).toInt + (rb (10 * u2.toInt + s).toNat).toInt ≤ 9 from (fun s hs => by omega)) (show ∀ k : Nat, rd k = if (k : Int) < 0 then rb (10 * u1.toInt + k).toNat + rb (10 * u2.toInt + k).toNat else rd k from (by
          intro k; (repeat' split) <;> first | rfl | (exfalso; omega) | (exact congrArg _ (by omega))))
    · have c139 : r131.toInt = 0 := congrArg Int32.toInt c134
      have i140 : iv r131 0 0 := iv_Q c139 ir131 (iv_k (x := 0) (k := 0) rfl) (by decide)
      have i141 := czr131 c139
      refine lv_aload_n hx hb dX11_join_21 rfl (lv_at hl 0 rfl) ?_
      refine lv_iconst (v := 0) hx hb dX11_join_22 (by decide) ?_
      obtain ⟨_, r142⟩ := t_rec tf98 hu0 (by decide) wf_60
      refine k_i (r_V C h hl (As := [.int 0]) (rest := []) (s_X11_refuse l D G b0 τ f98 tf98 u0 hu0 0 (iv_w (iv_k (x := 0) (k := 0) rfl) (by decide))) r142 (Cn := RX11) (T := TX11) (N := 32) rfl rfl mk_X11_refuse w_1604 w_1606 w_48 w_1607 ⟨Nat.le_of_ble_eq_true rfl, Nat.le_of_ble_eq_true rfl⟩ rfl (Nat.le_of_ble_eq_true rfl) ⟨Nat.le_of_ble_eq_true rfl, Nat.le_of_ble_eq_true rfl⟩ rfl dX11_join_23) h (fun r143 f144 H locs p145 h => ?_)
      obtain ⟨ir143, tf144, ogf144⟩ := p145
      have of144 : Fr [60, 62, 63, 65, 66, 60001, 60011] τ f f144 := Fr.tr of98 ogf144 (by decide) (by decide)
      have k146 := atp.fr k99 ogf144 hu0 (by decide)
      have k147 := atp.fr k100 ogf144 hu0 (by decide)
      have k148 := atp.fr k101 ogf144 hu0 (by decide)
      have k149 := atp.fr k102 ogf144 hu0 (by decide)
      have k150 := atp.fr k103 ogf144 hbq (by decide)
      have k151 := atp.fr k104 ogf144 hkq (by decide)
      have k152 := atp.fr k105 ogf144 hdq (by decide)
      exact u_iret C h hr hQ (⟨(iv_w ir143 (by decide)), tf144, of144, ⟨fun z_ => absurd z_ (by omega), fun _ => (by omega)⟩, ⟨ac, k146, hac, ⟨fun z_ => absurd z_ (by omega), fun _ => rfl⟩⟩, ⟨rb, k150, (fun k hk => by rw [if_neg (by omega)])⟩, ⟨rk, k151, (fun k hk => by rw [if_neg (by omega)])⟩⟩) (Nat.le_of_ble_eq_true rfl) (Nat.le_of_ble_eq_true rfl) dX11_join_26
abbrev rm_s_X11_undoX : Room := { frames := 0, cells := 0, slots := 0, locals := 0 }
set_option maxRecDepth 100000 in
set_option maxHeartbeats 4000000 in
theorem s_X11_undoX (l : Launch) (D : va_G) (G : Nat → Nat) (b0 : Nat) (τ : Nat → Nat) (f : hM) (t : TI G 9 τ f) (u0 : Nat) (hu0 : τ u0 = 60) (ac : Int32) (hac : iv ac 0 12) (k_u0_10 : atp f u0 (fd 10 (.int ac))) (bq : Nat) (hbq : τ bq = 63) (k_u0_6 : atp f u0 (fd 6 (.ref bq))) (kq : Nat) (hkq : τ kq = 65) (k_u0_8 : atp f u0 (fd 8 (.ref kq))) (rb : Nat → Int32) (hRbq : atp f bq (eqc (.inl (G 1, 81, .inl rb)))) (rk : Nat → Int32) (hRkq : atp f kq (eqc (.inl (G 1, 972, .inl rk)))) (hr0 : ac.toInt ≠ 0 → (rk (81 * (ac.toInt - 1) + 80).toNat).toInt ≤ 8) : mI l yX11_undo cX11_undo 2 (.int) rm_s_X11_undoX D G b0 f [.ref u0] (fun r f1 => iv r (-1) 11 ∧ TI G 9 τ f1 ∧ Fr [60, 63, 60001, 60011] τ f f1 ∧ ((ac.toInt = 0 → r.toInt = -1) ∧ (ac.toInt ≠ 0 → r.toInt = ac.toInt - 1)) ∧ (∃ ac1 : Int32, atp f1 u0 (fd 10 (.int ac1)) ∧ iv ac1 0 12 ∧ (ac.toInt = 0 → ac1.toInt = 0) ∧ (ac.toInt ≠ 0 → ac1.toInt = ac.toInt - 1)) ∧ (∃ rb1 : Nat → Int32, atp f1 bq (eqc (.inl (G 1, 81, .inl rb1))) ∧ (∀ k : Nat, k < 81 → rb1 k = if ac.toInt = 0 then rb k else rk (81 * (ac.toInt - 1) + k).toNat))) := by
  refine met2 (own := RX11) (by decide) rfl (Nat.le_of_ble_eq_true rfl) ?_
  intro p e s m args below meth c ls Q hQ C hr hini hl h
  have hl : lv_has ls 2 [(0, .ref u0)] := hl
  obtain ⟨hx, hb, hml, hown, hts, hE0, hlk⟩ := id C
  have o := Fr.rf [60, 63, 60001, 60011] τ f
  have L26 : ∀ (n26 : Nat) (ls : Array Slot) (f_26 : hM) (H : Heap) (locs : List Loc) (v26_1 : Int32) (g26_bq_R : Nat → Int32) (g26_u0_10 : Int32), 81 - v26_1.toInt < (n26 : Int) → lv_has ls 2 [(0, .ref u0), (1, .int v26_1)] → hw D b0 s.heap f_26 H locs → TI G 9 τ f_26 → Fr [60, 63, 60001, 60011] τ f f_26 → iv v26_1 0 81 → iv g26_u0_10 0 11 → atp f_26 u0 (fd 6 (.ref bq)) → atp f_26 u0 (fd 8 (.ref kq)) → atp f_26 bq (eqc (.inl (G 1, 81, .inl g26_bq_R))) → atp f_26 kq (eqc (.inl (G 1, 972, .inl rk))) → atp f_26 u0 (fd 10 (.int g26_u0_10)) → g26_u0_10.toInt = ac.toInt - 1 → (∀ k : Nat, g26_bq_R k = if (k : Int) < v26_1.toInt then rk (81 * (ac.toInt - 1) + k).toNat else rb k) → W p l e rm_s_X11_undoX s m args below meth c H locs 0 0 Q (F0 m 26 ls []) := by
    intro n26
    induction n26 with
    | zero => intro ls f_26 H locs v26_1 g26_bq_R g26_u0_10 hm26 hl h t_26 o_26 iv26_1 ig26_u0_10 k26_u0_6 k26_u0_8 k26_bq_R k26_kq_R k26_u0_10 hv26_0 hv26_1; exact absurd hm26 (by omega)
    | succ n26 ih26 =>
      intro ls f_26 H locs v26_1 g26_bq_R g26_u0_10 hm26 hl h t_26 o_26 iv26_1 ig26_u0_10 k26_u0_6 k26_u0_8 k26_bq_R k26_kq_R k26_u0_10 hv26_0 hv26_1
      refine lv_iload_n hx hb dX11_undo_26 rfl (lv_at hl 1 rfl) ?_
      refine lv_bipush (v := 81) hx hb dX11_undo_27 (by decide) ?_
      refine lv_icmp_ge (tgt := 58) hx hb dX11_undo_29 (by decide) (fun c1 => ?_) (fun c1 => ?_)
      · have c2 : 81 ≤ v26_1.toInt := Int32.le_iff_toInt_le.mp c1
        have i3 : iv v26_1 81 81 := iv_Er c2 (iv_k (x := 81) (k := 81) rfl) iv26_1 (by decide)
        refine lv_aload_n hx hb dX11_undo_58 rfl (lv_at hl 0 rfl) ?_
        refine t_getfd C h t_26 hu0 (by decide) wf_60 (v := .int g26_u0_10) k26_u0_10 fl_X11_155 dX11_undo_59 ?_
        exact u_iret C h hr hQ (⟨(iv_w ig26_u0_10 (by decide)), t_26, o_26, (by omega), ⟨g26_u0_10, k26_u0_10, (iv_w ig26_u0_10 (by decide)), (by omega)⟩, ⟨g26_bq_R, k26_bq_R, (fun k hk => by rw [hv26_1 k]; (repeat' split) <;> first | rfl | (exfalso; omega) | (exact congrArg _ (by omega)))⟩⟩) (Nat.le_of_ble_eq_true rfl) (Nat.le_of_ble_eq_true rfl) dX11_undo_62
      · have c4 : v26_1.toInt < 81 := Int32.lt_iff_toInt_lt.mp (iv_nle c1)
        have i5 : iv v26_1 0 80 := iv_Ll c4 iv26_1 (iv_k (x := 81) (k := 81) rfl) (by decide)
        refine lv_aload_n hx hb dX11_undo_32 rfl (lv_at hl 0 rfl) ?_
        refine t_getfd C h t_26 hu0 (by decide) wf_60 (v := .ref bq) k26_u0_6 fl_X11_17 dX11_undo_33 ?_
        refine lv_iload_n hx hb dX11_undo_36 rfl (lv_at hl 1 rfl) ?_
        refine lv_aload_n hx hb dX11_undo_37 rfl (lv_at hl 0 rfl) ?_
        refine t_getfd C h t_26 hu0 (by decide) wf_60 (v := .ref kq) k26_u0_8 fl_X11_23 dX11_undo_38 ?_
        refine lv_bipush (v := 81) hx hb dX11_undo_41 (by decide) ?_
        refine lv_aload_n hx hb dX11_undo_43 rfl (lv_at hl 0 rfl) ?_
        refine t_getfd C h t_26 hu0 (by decide) wf_60 (v := .int g26_u0_10) k26_u0_10 fl_X11_155 dX11_undo_44 ?_
        refine i_cmul hx hb dX11_undo_47 (k := 81) rfl ig26_u0_10 (lo := 0) (hi := 891) (by decide) (fun z6 ez6 mz6 iz6 => ?_)
        refine lv_iload_n hx hb dX11_undo_48 rfl (lv_at hl 1 rfl) ?_
        refine i_add hx hb dX11_undo_49 iz6 i5 (lo := 0) (hi := 971) (by decide) (fun z7 ez7 mz7 iz7 => ?_)
        refine e_iald C h t_26 hkq (by decide) wf_65 k26_kq_R (iv_in iz7 (by decide)) dX11_undo_50 (fun z8 ez8 iz8 => ?_)
        have mz8 := congrArg Int32.toInt ez8
        refine e_bkst C h t_26 o_26 hbq (by decide) (by decide) wf_63 fw_63 k26_bq_R (bk_or i5 (by omega) ⟨iz8, fun z_ => by rw [ez8, show z7.toInt.toNat = (81 * (ac.toInt - 1) + 80).toNat by omega]; exact hr0 (by omega)⟩) dX11_undo_51 (fun R11 f9 erR11 H locs h tf9 of9 hq hn_ k10 => ?_)
        have k12 := atp.tg k26_u0_6 hq hu0 (by decide)
        have k13 := atp.tg k26_u0_8 hq hu0 (by decide)
        have k15 := atp.tg k26_kq_R hq hkq (by decide)
        have k16 := atp.tg k26_u0_10 hq hu0 (by decide)
        refine i_inc hx hb dX11_undo_52 hl (k := 1) rfl i5 rfl (lo := 1) (hi := 81) (by decide) (by decide) (lv' := fun v => [(1, .int v), (0, .ref u0)]) (fun _ => rfl) (fun z17 ls ez17 mz17 iz17 hl => ?_)
        refine lv_goto (tgt := 26) hx hb dX11_undo_55 (by decide) ?_
        exact ih26 ls f9 H locs z17 R11 g26_u0_10 (show 81 - z17.toInt < _ by omega) (lv_cons hl 1 rfl (lv_cons hl 0 rfl (lv_nil hl))) h tf9 of9 (iv_w iz17 (by decide)) ig26_u0_10 k12 k13 k10 k15 k16 (show g26_u0_10.toInt = ac.toInt - 1 by omega) (show ∀ k : Nat, R11 k = if (k : Int) < z17.toInt then rk (81 * (ac.toInt - 1) + k).toNat else rb k from (by
            intro k; rw [erR11]; by_cases q_ : k = v26_1.toInt.toNat
            · rw [upd_at q_, ez8]; (repeat' split) <;> first | rfl | (exfalso; omega) | (exact congrArg _ (by omega))
            · rw [upd_off q_, hv26_1 k]; (repeat' split) <;> first | rfl | (exfalso; omega) | (exact congrArg _ (by omega))))
  refine lv_aload_n hx hb dX11_undo_0 rfl (lv_at hl 0 rfl) ?_
  refine lv_iconst (v := 0) hx hb dX11_undo_1 (by decide) ?_
  refine t_put C h t o hu0 (by decide) (by decide) (by decide) wf_60 fw_60 (k := 0) rfl flw_X11_75 (Or.inr ⟨_, _, _, rfl, rfl⟩) (v := .int 0) rfl rfl ⟨_, rfl, ⟨by decide, by decide⟩⟩ dX11_undo_2 (fun f18 H locs h tf18 of18 hq ha_ hn_ hk_ => ?_)
  have k19 := hk_ 10 _ (by decide) k_u0_10
  have k20 := hk_ 6 _ (by decide) k_u0_6
  have k21 := hk_ 8 _ (by decide) k_u0_8
  have k22 := atp.tg hRbq hq hbq (by decide)
  have k23 := atp.tg hRkq hq hkq (by decide)
  have k24 := ha_
  refine lv_aload_n hx hb dX11_undo_5 rfl (lv_at hl 0 rfl) ?_
  refine t_getfd C h tf18 hu0 (by decide) wf_60 (v := .int ac) k19 fl_X11_155 dX11_undo_6 ?_
  refine lv_if_ne (tgt := 14) hx hb dX11_undo_9 (by decide) (fun c25 => ?_) (fun c25 => ?_)
  · have c26 : ac.toInt ≠ 0 := fun z_ => c25 (Int32.toInt_inj.mp z_)
    have i27 : iv ac 1 12 := iv_Nl c26 hac (by decide)
    refine lv_aload_n hx hb dX11_undo_14 rfl (lv_at hl 0 rfl) ?_
    refine lv_dup hx hb dX11_undo_15 rfl ?_
    refine t_getfd C h tf18 hu0 (by decide) wf_60 (v := .int ac) k19 fl_X11_155 dX11_undo_16 ?_
    refine lv_iconst (v := 1) hx hb dX11_undo_19 (by decide) ?_
    refine i_subk hx hb dX11_undo_20 i27 (k := 1) rfl (lo := 0) (hi := 11) (by decide) (fun z30 ez30 mz30 iz30 => ?_)
    refine t_put C h tf18 of18 hu0 (by decide) (by decide) (by decide) wf_60 fw_60 (k := 10) rfl flw_X11_155 (Or.inr ⟨_, _, _, rfl, rfl⟩) (v := .int z30) rfl rfl ⟨_, rfl, (iv_w iz30 (by decide))⟩ dX11_undo_21 (fun f31 H locs h tf31 of31 hq ha_ hn_ hk_ => ?_)
    have k33 := hk_ 6 _ (by decide) k20
    have k34 := hk_ 8 _ (by decide) k21
    have k35 := atp.tg k22 hq hbq (by decide)
    have k36 := atp.tg k23 hq hkq (by decide)
    have k37 := ha_
    refine lv_iconst (v := 0) hx hb dX11_undo_24 (by decide) ?_
    refine lv_istore_n (lv' := [(1, .int 0), (0, .ref u0)]) hx hb dX11_undo_25 rfl hl (by decide) rfl (fun ls hl => ?_)
    exact L26 82 ls f31 H locs 0 rb z30 (by decide) (lv_cons hl 1 rfl (lv_cons hl 0 rfl (lv_nil hl))) h tf31 of31 ⟨by decide, by decide⟩ iz30 k33 k34 k35 k36 k37 (show z30.toInt = ac.toInt - 1 by omega) (show ∀ k : Nat, rb k = if (k : Int) < 0 then rk (81 * (ac.toInt - 1) + k).toNat else rb k from (by
        intro k; (repeat' split) <;> first | rfl | (exfalso; omega) | (exact congrArg _ (by omega))))
  · have c28 : ac.toInt = 0 := congrArg Int32.toInt c25
    have i29 : iv ac 0 0 := iv_Q c28 hac (iv_k (x := 0) (k := 0) rfl) (by decide)
    refine lv_iconst (v := -1) hx hb dX11_undo_12 (by decide) ?_
    exact u_iret C h hr hQ (⟨⟨by decide, by decide⟩, tf18, of18, (by have n_ : (-1 : Int32).toInt = -1 := rfl; omega), ⟨ac, k19, (iv_w i29 (by decide)), (by omega)⟩, ⟨rb, k22, (fun k hk => by rw [if_pos (by omega)])⟩⟩) (Nat.le_of_ble_eq_true rfl) (Nat.le_of_ble_eq_true rfl) dX11_undo_13
abbrev rm_s_X11_imageX : Room := { frames := 0, cells := 0, slots := 0, locals := 0 }
set_option maxRecDepth 100000 in
set_option maxHeartbeats 4000000 in
theorem s_X11_imageX (l : Launch) (D : va_G) (G : Nat → Nat) (b0 : Nat) (τ : Nat → Nat) (f : hM) (t : TI G 9 τ f) (u0 : Nat) (hu0 : τ u0 = 60) (hi : Int32) (hhi : iv hi 0 1) (k_u0_11 : atp f u0 (fd 11 (.int hi))) (bq : Nat) (hbq : τ bq = 63) (k_u0_6 : atp f u0 (fd 6 (.ref bq))) (iq : Nat) (hiq : τ iq = 64) (k_u0_7 : atp f u0 (fd 7 (.ref iq))) (rb : Nat → Int32) (hRbq : atp f bq (eqc (.inl (G 1, 81, .inl rb)))) (ri : Nat → Int32) (hRiq : atp f iq (eqc (.inl (G 1, 81, .inl ri)))) : mI l yX11_image cX11_image 2 (.int) rm_s_X11_imageX D G b0 f [.ref u0] (fun r f1 => iv r 0 8 ∧ TI G 9 τ f1 ∧ Fr [60, 64, 60001, 60012] τ f f1 ∧ (r.toInt = (rb 80).toInt) ∧ (∃ hi1 : Int32, atp f1 u0 (fd 11 (.int hi1)) ∧ iv hi1 1 1 ∧ hi1.toInt = 1) ∧ (∃ ri1 : Nat → Int32, atp f1 iq (eqc (.inl (G 1, 81, .inl ri1))) ∧ (∀ k : Nat, k < 81 → ri1 k = rb k))) := by
  refine met2 (own := RX11) (by decide) rfl (Nat.le_of_ble_eq_true rfl) ?_
  intro p e s m args below meth c ls Q hQ C hr hini hl h
  have hl : lv_has ls 2 [(0, .ref u0)] := hl
  obtain ⟨hx, hb, hml, hown, hts, hE0, hlk⟩ := id C
  have o := Fr.rf [60, 64, 60001, 60012] τ f
  have L7 : ∀ (n7 : Nat) (ls : Array Slot) (f_7 : hM) (H : Heap) (locs : List Loc) (v7_1 : Int32) (g7_iq_R : Nat → Int32), 81 - v7_1.toInt < (n7 : Int) → lv_has ls 2 [(0, .ref u0), (1, .int v7_1)] → hw D b0 s.heap f_7 H locs → TI G 9 τ f_7 → Fr [60, 64, 60001, 60012] τ f f_7 → iv v7_1 0 81 → atp f_7 u0 (fd 11 (.int hi)) → atp f_7 u0 (fd 6 (.ref bq)) → atp f_7 u0 (fd 7 (.ref iq)) → atp f_7 bq (eqc (.inl (G 1, 81, .inl rb))) → atp f_7 iq (eqc (.inl (G 1, 81, .inl g7_iq_R))) → (∀ k : Nat, g7_iq_R k = if (k : Int) < v7_1.toInt then rb k else ri k) → W p l e rm_s_X11_imageX s m args below meth c H locs 0 0 Q (F0 m 7 ls []) := by
    intro n7
    induction n7 with
    | zero => intro ls f_7 H locs v7_1 g7_iq_R hm7 hl h t_7 o_7 iv7_1 k7_u0_11 k7_u0_6 k7_u0_7 k7_bq_R k7_iq_R hv7_0; exact absurd hm7 (by omega)
    | succ n7 ih7 =>
      intro ls f_7 H locs v7_1 g7_iq_R hm7 hl h t_7 o_7 iv7_1 k7_u0_11 k7_u0_6 k7_u0_7 k7_bq_R k7_iq_R hv7_0
      refine lv_iload_n hx hb dX11_image_7 rfl (lv_at hl 1 rfl) ?_
      refine lv_bipush (v := 81) hx hb dX11_image_8 (by decide) ?_
      refine lv_icmp_ge (tgt := 31) hx hb dX11_image_10 (by decide) (fun c1 => ?_) (fun c1 => ?_)
      · have c2 : 81 ≤ v7_1.toInt := Int32.le_iff_toInt_le.mp c1
        have i3 : iv v7_1 81 81 := iv_Er c2 (iv_k (x := 81) (k := 81) rfl) iv7_1 (by decide)
        refine lv_aload_n hx hb dX11_image_31 rfl (lv_at hl 0 rfl) ?_
        refine lv_iconst (v := 1) hx hb dX11_image_32 (by decide) ?_
        refine t_put C h t_7 o_7 hu0 (by decide) (by decide) (by decide) wf_60 fw_60 (k := 11) rfl flw_X11_437 (Or.inr ⟨_, _, _, rfl, rfl⟩) (v := .int 1) rfl rfl ⟨_, rfl, ⟨by decide, by decide⟩⟩ dX11_image_33 (fun f6 H locs h tf6 of6 hq ha_ hn_ hk_ => ?_)
        have k8 := hk_ 6 _ (by decide) k7_u0_6
        have k9 := hk_ 7 _ (by decide) k7_u0_7
        have k10 := atp.tg k7_bq_R hq hbq (by decide)
        have k11 := atp.tg k7_iq_R hq hiq (by decide)
        have k12 := ha_
        refine lv_aload_n hx hb dX11_image_36 rfl (lv_at hl 0 rfl) ?_
        refine t_getfd C h tf6 hu0 (by decide) wf_60 (v := .ref bq) k8 fl_X11_17 dX11_image_37 ?_
        refine lv_bipush (v := 80) hx hb dX11_image_40 (by decide) ?_
        refine e_bk80 C h tf6 hbq (by decide) wf_63 k10 dX11_image_42 (fun z13 ez13 iz13 => ?_)
        have mz13 := congrArg Int32.toInt ez13
        exact u_iret C h hr hQ (⟨iz13, tf6, of6, (by omega), ⟨1, k12, ⟨by decide, by decide⟩, (by decide)⟩, ⟨g7_iq_R, k11, (fun k hk => by rw [hv7_0 k]; (repeat' split) <;> first | rfl | (exfalso; omega) | (exact congrArg _ (by omega)))⟩⟩) (Nat.le_of_ble_eq_true rfl) (Nat.le_of_ble_eq_true rfl) dX11_image_43
      · have c4 : v7_1.toInt < 81 := Int32.lt_iff_toInt_lt.mp (iv_nle c1)
        have i5 : iv v7_1 0 80 := iv_Ll c4 iv7_1 (iv_k (x := 81) (k := 81) rfl) (by decide)
        refine lv_aload_n hx hb dX11_image_13 rfl (lv_at hl 0 rfl) ?_
        refine t_getfd C h t_7 hu0 (by decide) wf_60 (v := .ref iq) k7_u0_7 fl_X11_20 dX11_image_14 ?_
        refine lv_iload_n hx hb dX11_image_17 rfl (lv_at hl 1 rfl) ?_
        refine lv_aload_n hx hb dX11_image_18 rfl (lv_at hl 0 rfl) ?_
        refine t_getfd C h t_7 hu0 (by decide) wf_60 (v := .ref bq) k7_u0_6 fl_X11_17 dX11_image_19 ?_
        refine lv_iload_n hx hb dX11_image_22 rfl (lv_at hl 1 rfl) ?_
        refine e_bkA C h t_7 hbq (by decide) wf_63 k7_bq_R i5 (by decide) (hi := 9) (by decide) dX11_image_23 (fun z14 ez14 iz14 => ?_)
        have mz14 := congrArg Int32.toInt ez14
        refine e_iast C h t_7 o_7 hiq (by decide) (by decide) wf_64 fw_64 k7_iq_R (iv_in i5 (by decide)) iz14 dX11_image_24 (fun R17 f15 erR17 H locs h tf15 of15 hq hn_ k16 => ?_)
        have k18 := atp.tg k7_u0_11 hq hu0 (by decide)
        have k19 := atp.tg k7_u0_6 hq hu0 (by decide)
        have k20 := atp.tg k7_u0_7 hq hu0 (by decide)
        have k21 := atp.tg k7_bq_R hq hbq (by decide)
        refine i_inc hx hb dX11_image_25 hl (k := 1) rfl i5 rfl (lo := 1) (hi := 81) (by decide) (by decide) (lv' := fun v => [(1, .int v), (0, .ref u0)]) (fun _ => rfl) (fun z23 ls ez23 mz23 iz23 hl => ?_)
        refine lv_goto (tgt := 7) hx hb dX11_image_28 (by decide) ?_
        exact ih7 ls f15 H locs z23 R17 (show 81 - z23.toInt < _ by omega) (lv_cons hl 1 rfl (lv_cons hl 0 rfl (lv_nil hl))) h tf15 of15 (iv_w iz23 (by decide)) k18 k19 k20 k21 k16 (show ∀ k : Nat, R17 k = if (k : Int) < z23.toInt then rb k else ri k from (by
            intro k; rw [erR17]; by_cases q_ : k = v7_1.toInt.toNat
            · rw [upd_at q_, ez14]; (repeat' split) <;> first | rfl | (exfalso; omega) | (exact congrArg _ (by omega))
            · rw [upd_off q_, hv7_0 k]; (repeat' split) <;> first | rfl | (exfalso; omega) | (exact congrArg _ (by omega))))
  refine lv_aload_n hx hb dX11_image_0 rfl (lv_at hl 0 rfl) ?_
  refine lv_iconst (v := 0) hx hb dX11_image_1 (by decide) ?_
  refine t_put C h t o hu0 (by decide) (by decide) (by decide) wf_60 fw_60 (k := 0) rfl flw_X11_75 (Or.inr ⟨_, _, _, rfl, rfl⟩) (v := .int 0) rfl rfl ⟨_, rfl, ⟨by decide, by decide⟩⟩ dX11_image_2 (fun f24 H locs h tf24 of24 hq ha_ hn_ hk_ => ?_)
  have k25 := hk_ 11 _ (by decide) k_u0_11
  have k26 := hk_ 6 _ (by decide) k_u0_6
  have k27 := hk_ 7 _ (by decide) k_u0_7
  have k28 := atp.tg hRbq hq hbq (by decide)
  have k29 := atp.tg hRiq hq hiq (by decide)
  have k30 := ha_
  refine lv_iconst (v := 0) hx hb dX11_image_5 (by decide) ?_
  refine lv_istore_n (lv' := [(1, .int 0), (0, .ref u0)]) hx hb dX11_image_6 rfl hl (by decide) rfl (fun ls hl => ?_)
  exact L7 82 ls f24 H locs 0 ri (by decide) (lv_cons hl 1 rfl (lv_cons hl 0 rfl (lv_nil hl))) h tf24 of24 ⟨by decide, by decide⟩ k25 k26 k27 k28 k29 (show ∀ k : Nat, ri k = if (k : Int) < 0 then rb k else ri k from (by
      intro k; (repeat' split) <;> first | rfl | (exfalso; omega) | (exact congrArg _ (by omega))))
abbrev rm_s_X11_backX : Room := { frames := 0, cells := 0, slots := 0, locals := 0 }
set_option maxRecDepth 100000 in
set_option maxHeartbeats 4000000 in
theorem s_X11_backX (l : Launch) (D : va_G) (G : Nat → Nat) (b0 : Nat) (τ : Nat → Nat) (f : hM) (t : TI G 9 τ f) (u0 : Nat) (hu0 : τ u0 = 60) (ac : Int32) (hac : iv ac 0 12) (k_u0_10 : atp f u0 (fd 10 (.int ac))) (hi : Int32) (hhi : iv hi 0 1) (k_u0_11 : atp f u0 (fd 11 (.int hi))) (bq : Nat) (hbq : τ bq = 63) (k_u0_6 : atp f u0 (fd 6 (.ref bq))) (iq : Nat) (hiq : τ iq = 64) (k_u0_7 : atp f u0 (fd 7 (.ref iq))) (rb : Nat → Int32) (hRbq : atp f bq (eqc (.inl (G 1, 81, .inl rb)))) (ri : Nat → Int32) (hRiq : atp f iq (eqc (.inl (G 1, 81, .inl ri)))) (hr0 : hi.toInt ≠ 0 → (ri 80).toInt ≤ 8) : mI l yX11_back cX11_back 2 (.int) rm_s_X11_backX D G b0 f [.ref u0] (fun r f1 => iv r (-1) 8 ∧ TI G 9 τ f1 ∧ Fr [60, 63, 60001, 60011] τ f f1 ∧ ((hi.toInt = 0 → r.toInt = -1) ∧ (hi.toInt ≠ 0 → r.toInt = (ri 80).toInt)) ∧ (∃ ac1 : Int32, atp f1 u0 (fd 10 (.int ac1)) ∧ iv ac1 0 12 ∧ (hi.toInt = 0 → ac1.toInt = ac.toInt) ∧ (hi.toInt ≠ 0 → ac1.toInt = 0)) ∧ (∃ rb1 : Nat → Int32, atp f1 bq (eqc (.inl (G 1, 81, .inl rb1))) ∧ (∀ k : Nat, k < 81 → rb1 k = if hi.toInt = 0 then rb k else ri k))) := by
  refine met2 (own := RX11) (by decide) rfl (Nat.le_of_ble_eq_true rfl) ?_
  intro p e s m args below meth c ls Q hQ C hr hini hl h
  have hl : lv_has ls 2 [(0, .ref u0)] := hl
  obtain ⟨hx, hb, hml, hown, hts, hE0, hlk⟩ := id C
  have o := Fr.rf [60, 63, 60001, 60011] τ f
  have L16 : ∀ (n16 : Nat) (ls : Array Slot) (f_16 : hM) (H : Heap) (locs : List Loc) (v16_1 : Int32) (g16_bq_R : Nat → Int32), 81 - v16_1.toInt < (n16 : Int) → lv_has ls 2 [(0, .ref u0), (1, .int v16_1)] → hw D b0 s.heap f_16 H locs → TI G 9 τ f_16 → Fr [60, 63, 60001, 60011] τ f f_16 → iv v16_1 0 81 → iv hi 1 1 → atp f_16 u0 (fd 10 (.int ac)) → atp f_16 u0 (fd 11 (.int hi)) → atp f_16 u0 (fd 6 (.ref bq)) → atp f_16 u0 (fd 7 (.ref iq)) → atp f_16 bq (eqc (.inl (G 1, 81, .inl g16_bq_R))) → atp f_16 iq (eqc (.inl (G 1, 81, .inl ri))) → hi.toInt ≠ 0 → (∀ k : Nat, g16_bq_R k = if (k : Int) < v16_1.toInt then ri k else rb k) → W p l e rm_s_X11_backX s m args below meth c H locs 0 0 Q (F0 m 16 ls []) := by
    intro n16
    induction n16 with
    | zero => intro ls f_16 H locs v16_1 g16_bq_R hm16 hl h t_16 o_16 iv16_1 jg16_u0_11 k16_u0_10 k16_u0_11 k16_u0_6 k16_u0_7 k16_bq_R k16_iq_R hv16_0 hv16_1; exact absurd hm16 (by omega)
    | succ n16 ih16 =>
      intro ls f_16 H locs v16_1 g16_bq_R hm16 hl h t_16 o_16 iv16_1 jg16_u0_11 k16_u0_10 k16_u0_11 k16_u0_6 k16_u0_7 k16_bq_R k16_iq_R hv16_0 hv16_1
      refine lv_iload_n hx hb dX11_back_16 rfl (lv_at hl 1 rfl) ?_
      refine lv_bipush (v := 81) hx hb dX11_back_17 (by decide) ?_
      refine lv_icmp_ge (tgt := 40) hx hb dX11_back_19 (by decide) (fun c1 => ?_) (fun c1 => ?_)
      · have c2 : 81 ≤ v16_1.toInt := Int32.le_iff_toInt_le.mp c1
        have i3 : iv v16_1 81 81 := iv_Er c2 (iv_k (x := 81) (k := 81) rfl) iv16_1 (by decide)
        refine lv_aload_n hx hb dX11_back_40 rfl (lv_at hl 0 rfl) ?_
        refine lv_iconst (v := 0) hx hb dX11_back_41 (by decide) ?_
        refine t_put C h t_16 o_16 hu0 (by decide) (by decide) (by decide) wf_60 fw_60 (k := 10) rfl flw_X11_155 (Or.inr ⟨_, _, _, rfl, rfl⟩) (v := .int 0) rfl rfl ⟨_, rfl, ⟨by decide, by decide⟩⟩ dX11_back_42 (fun f6 H locs h tf6 of6 hq ha_ hn_ hk_ => ?_)
        have k8 := hk_ 11 _ (by decide) k16_u0_11
        have k9 := hk_ 6 _ (by decide) k16_u0_6
        have k10 := hk_ 7 _ (by decide) k16_u0_7
        have k11 := atp.tg k16_bq_R hq hbq (by decide)
        have k12 := atp.tg k16_iq_R hq hiq (by decide)
        have k13 := ha_
        refine lv_aload_n hx hb dX11_back_45 rfl (lv_at hl 0 rfl) ?_
        refine t_getfd C h tf6 hu0 (by decide) wf_60 (v := .ref bq) k9 fl_X11_17 dX11_back_46 ?_
        refine lv_bipush (v := 80) hx hb dX11_back_49 (by decide) ?_
        refine e_bk80 C h tf6 hbq (by decide) wf_63 k11 dX11_back_51 (fun z14 ez14 iz14 => ?_)
        have mz14 := congrArg Int32.toInt ez14
        exact u_iret C h hr hQ (⟨(iv_w iz14 (by decide)), tf6, of6, (by have h_ : (g16_bq_R 80).toInt = (ri 80).toInt := (by rw [hv16_1 80, if_pos (by omega)]); omega), ⟨0, k13, ⟨by decide, by decide⟩, (by have n_ : (0 : Int32).toInt = 0 := rfl; omega)⟩, ⟨g16_bq_R, k11, (fun k hk => by rw [hv16_1 k]; (repeat' split) <;> first | rfl | (exfalso; omega) | (exact congrArg _ (by omega)))⟩⟩) (Nat.le_of_ble_eq_true rfl) (Nat.le_of_ble_eq_true rfl) dX11_back_52
      · have c4 : v16_1.toInt < 81 := Int32.lt_iff_toInt_lt.mp (iv_nle c1)
        have i5 : iv v16_1 0 80 := iv_Ll c4 iv16_1 (iv_k (x := 81) (k := 81) rfl) (by decide)
        refine lv_aload_n hx hb dX11_back_22 rfl (lv_at hl 0 rfl) ?_
        refine t_getfd C h t_16 hu0 (by decide) wf_60 (v := .ref bq) k16_u0_6 fl_X11_17 dX11_back_23 ?_
        refine lv_iload_n hx hb dX11_back_26 rfl (lv_at hl 1 rfl) ?_
        refine lv_aload_n hx hb dX11_back_27 rfl (lv_at hl 0 rfl) ?_
        refine t_getfd C h t_16 hu0 (by decide) wf_60 (v := .ref iq) k16_u0_7 fl_X11_20 dX11_back_28 ?_
        refine lv_iload_n hx hb dX11_back_31 rfl (lv_at hl 1 rfl) ?_
        refine e_iald C h t_16 hiq (by decide) wf_64 k16_iq_R (iv_in i5 (by decide)) dX11_back_32 (fun z15 ez15 iz15 => ?_)
        have mz15 := congrArg Int32.toInt ez15
        refine e_bkst C h t_16 o_16 hbq (by decide) (by decide) wf_63 fw_63 k16_bq_R (bk_or i5 (by omega) ⟨iz15, fun z_ => by rw [ez15, show v16_1.toInt.toNat = 80 by omega]; exact hr0 (by omega)⟩) dX11_back_33 (fun R18 f16 erR18 H locs h tf16 of16 hq hn_ k17 => ?_)
        have k19 := atp.tg k16_u0_10 hq hu0 (by decide)
        have k20 := atp.tg k16_u0_11 hq hu0 (by decide)
        have k21 := atp.tg k16_u0_6 hq hu0 (by decide)
        have k22 := atp.tg k16_u0_7 hq hu0 (by decide)
        have k24 := atp.tg k16_iq_R hq hiq (by decide)
        refine i_inc hx hb dX11_back_34 hl (k := 1) rfl i5 rfl (lo := 1) (hi := 81) (by decide) (by decide) (lv' := fun v => [(1, .int v), (0, .ref u0)]) (fun _ => rfl) (fun z25 ls ez25 mz25 iz25 hl => ?_)
        refine lv_goto (tgt := 16) hx hb dX11_back_37 (by decide) ?_
        exact ih16 ls f16 H locs z25 R18 (show 81 - z25.toInt < _ by omega) (lv_cons hl 1 rfl (lv_cons hl 0 rfl (lv_nil hl))) h tf16 of16 (iv_w iz25 (by decide)) jg16_u0_11 k19 k20 k21 k22 k17 k24 (show hi.toInt ≠ 0 by omega) (show ∀ k : Nat, R18 k = if (k : Int) < z25.toInt then ri k else rb k from (by
            intro k; rw [erR18]; by_cases q_ : k = v16_1.toInt.toNat
            · rw [upd_at q_, ez15]; (repeat' split) <;> first | rfl | (exfalso; omega) | (exact congrArg _ (by omega))
            · rw [upd_off q_, hv16_1 k]; (repeat' split) <;> first | rfl | (exfalso; omega) | (exact congrArg _ (by omega))))
  refine lv_aload_n hx hb dX11_back_0 rfl (lv_at hl 0 rfl) ?_
  refine lv_iconst (v := 0) hx hb dX11_back_1 (by decide) ?_
  refine t_put C h t o hu0 (by decide) (by decide) (by decide) wf_60 fw_60 (k := 0) rfl flw_X11_75 (Or.inr ⟨_, _, _, rfl, rfl⟩) (v := .int 0) rfl rfl ⟨_, rfl, ⟨by decide, by decide⟩⟩ dX11_back_2 (fun f26 H locs h tf26 of26 hq ha_ hn_ hk_ => ?_)
  have k27 := hk_ 10 _ (by decide) k_u0_10
  have k28 := hk_ 11 _ (by decide) k_u0_11
  have k29 := hk_ 6 _ (by decide) k_u0_6
  have k30 := hk_ 7 _ (by decide) k_u0_7
  have k31 := atp.tg hRbq hq hbq (by decide)
  have k32 := atp.tg hRiq hq hiq (by decide)
  have k33 := ha_
  refine lv_aload_n hx hb dX11_back_5 rfl (lv_at hl 0 rfl) ?_
  refine t_getfd C h tf26 hu0 (by decide) wf_60 (v := .int hi) k28 fl_X11_437 dX11_back_6 ?_
  refine lv_if_ne (tgt := 14) hx hb dX11_back_9 (by decide) (fun c34 => ?_) (fun c34 => ?_)
  · have c35 : hi.toInt ≠ 0 := fun z_ => c34 (Int32.toInt_inj.mp z_)
    have i36 : iv hi 1 1 := iv_Nl c35 hhi (by decide)
    refine lv_iconst (v := 0) hx hb dX11_back_14 (by decide) ?_
    refine lv_istore_n (lv' := [(1, .int 0), (0, .ref u0)]) hx hb dX11_back_15 rfl hl (by decide) rfl (fun ls hl => ?_)
    exact L16 82 ls f26 H locs 0 rb (by decide) (lv_cons hl 1 rfl (lv_cons hl 0 rfl (lv_nil hl))) h tf26 of26 ⟨by decide, by decide⟩ i36 k27 k28 k29 k30 k31 k32 (show hi.toInt ≠ 0 by omega) (show ∀ k : Nat, rb k = if (k : Int) < 0 then ri k else rb k from (by
        intro k; (repeat' split) <;> first | rfl | (exfalso; omega) | (exact congrArg _ (by omega))))
  · have c37 : hi.toInt = 0 := congrArg Int32.toInt c34
    have i38 : iv hi 0 0 := iv_Q c37 hhi (iv_k (x := 0) (k := 0) rfl) (by decide)
    refine lv_iconst (v := -1) hx hb dX11_back_12 (by decide) ?_
    exact u_iret C h hr hQ (⟨⟨by decide, by decide⟩, tf26, of26, (by have n_ : (-1 : Int32).toInt = -1 := rfl; omega), ⟨ac, k27, hac, (by have n_ : (0 : Int32).toInt = 0 := rfl; omega)⟩, ⟨rb, k31, (fun k hk => by rw [if_pos (by omega)])⟩⟩) (Nat.le_of_ble_eq_true rfl) (Nat.le_of_ble_eq_true rfl) dX11_back_13
