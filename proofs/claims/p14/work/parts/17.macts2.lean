theorem dX11_mirror_0 : decode cX11_mirror 0 = .ok (.aload_n 0, 1) := by decide +kernel
theorem dX11_mirror_1 : decode cX11_mirror 1 = .ok (.iconst 0, 1) := by decide +kernel
theorem dX11_mirror_2 : decode cX11_mirror 2 = .ok (.putfield 75, 3) := by decide +kernel
theorem dX11_mirror_5 : decode cX11_mirror 5 = .ok (.aload_n 0, 1) := by decide +kernel
theorem dX11_mirror_6 : decode cX11_mirror 6 = .ok (.iload_n 1, 1) := by decide +kernel
theorem dX11_mirror_7 : decode cX11_mirror 7 = .ok (.invokevirtual 171, 3) := by decide +kernel
theorem dX11_mirror_10 : decode cX11_mirror 10 = .ok (.ifCond .ne 9, 3) := by decide +kernel
theorem dX11_mirror_19 : decode cX11_mirror 19 = .ok (.aload_n 0, 1) := by decide +kernel
theorem dX11_mirror_20 : decode cX11_mirror 20 = .ok (.getfield 17, 3) := by decide +kernel
theorem dX11_mirror_23 : decode cX11_mirror 23 = .ok (.bipush 80, 2) := by decide +kernel
theorem dX11_mirror_25 : decode cX11_mirror 25 = .ok (.iaload, 1) := by decide +kernel
theorem dX11_mirror_26 : decode cX11_mirror 26 = .ok (.bipush 8, 2) := by decide +kernel
theorem dX11_mirror_28 : decode cX11_mirror 28 = .ok (.if_icmp .ne 9, 3) := by decide +kernel
theorem dX11_mirror_37 : decode cX11_mirror 37 = .ok (.iconst 0, 1) := by decide +kernel
theorem dX11_mirror_38 : decode cX11_mirror 38 = .ok (.istore_n 2, 1) := by decide +kernel
theorem dX11_mirror_31 : decode cX11_mirror 31 = .ok (.aload_n 0, 1) := by decide +kernel
theorem dX11_mirror_32 : decode cX11_mirror 32 = .ok (.iconst 2, 1) := by decide +kernel
theorem dX11_mirror_33 : decode cX11_mirror 33 = .ok (.invokevirtual 165, 3) := by decide +kernel
theorem dX11_mirror_13 : decode cX11_mirror 13 = .ok (.aload_n 0, 1) := by decide +kernel
theorem dX11_mirror_14 : decode cX11_mirror 14 = .ok (.iconst 0, 1) := by decide +kernel
theorem dX11_mirror_15 : decode cX11_mirror 15 = .ok (.invokevirtual 165, 3) := by decide +kernel
theorem dX11_mirror_39 : decode cX11_mirror 39 = .ok (.iload_n 2, 1) := by decide +kernel
theorem dX11_mirror_40 : decode cX11_mirror 40 = .ok (.bipush 8, 2) := by decide +kernel
theorem dX11_mirror_42 : decode cX11_mirror 42 = .ok (.if_icmp .ge 27, 3) := by decide +kernel
theorem dX11_mirror_45 : decode cX11_mirror 45 = .ok (.aload_n 0, 1) := by decide +kernel
theorem dX11_mirror_46 : decode cX11_mirror 46 = .ok (.getfield 13, 3) := by decide +kernel
theorem dX11_mirror_49 : decode cX11_mirror 49 = .ok (.bipush 10, 2) := by decide +kernel
theorem dX11_mirror_51 : decode cX11_mirror 51 = .ok (.iload_n 2, 1) := by decide +kernel
theorem dX11_mirror_52 : decode cX11_mirror 52 = .ok (.isub, 1) := by decide +kernel
theorem dX11_mirror_53 : decode cX11_mirror 53 = .ok (.bipush 8, 2) := by decide +kernel
theorem dX11_mirror_55 : decode cX11_mirror 55 = .ok (.irem, 1) := by decide +kernel
theorem dX11_mirror_56 : decode cX11_mirror 56 = .ok (.aload_n 0, 1) := by decide +kernel
theorem dX11_mirror_57 : decode cX11_mirror 57 = .ok (.iload_n 1, 1) := by decide +kernel
theorem dX11_mirror_58 : decode cX11_mirror 58 = .ok (.iload_n 2, 1) := by decide +kernel
theorem dX11_mirror_59 : decode cX11_mirror 59 = .ok (.invokevirtual 175, 3) := by decide +kernel
theorem dX11_mirror_62 : decode cX11_mirror 62 = .ok (.iastore, 1) := by decide +kernel
theorem dX11_mirror_63 : decode cX11_mirror 63 = .ok (.iinc 2 1, 3) := by decide +kernel
theorem dX11_mirror_66 : decode cX11_mirror 66 = .ok (.goto (-27), 3) := by decide +kernel
theorem dX11_mirror_69 : decode cX11_mirror 69 = .ok (.aload_n 0, 1) := by decide +kernel
theorem dX11_mirror_70 : decode cX11_mirror 70 = .ok (.getfield 13, 3) := by decide +kernel
theorem dX11_mirror_73 : decode cX11_mirror 73 = .ok (.bipush 8, 2) := by decide +kernel
theorem dX11_mirror_75 : decode cX11_mirror 75 = .ok (.aload_n 0, 1) := by decide +kernel
theorem dX11_mirror_76 : decode cX11_mirror 76 = .ok (.iload_n 1, 1) := by decide +kernel
theorem dX11_mirror_77 : decode cX11_mirror 77 = .ok (.bipush 9, 2) := by decide +kernel
theorem dX11_mirror_79 : decode cX11_mirror 79 = .ok (.invokevirtual 175, 3) := by decide +kernel
theorem dX11_mirror_82 : decode cX11_mirror 82 = .ok (.iastore, 1) := by decide +kernel
theorem dX11_mirror_83 : decode cX11_mirror 83 = .ok (.aload_n 0, 1) := by decide +kernel
theorem dX11_mirror_84 : decode cX11_mirror 84 = .ok (.getfield 13, 3) := by decide +kernel
theorem dX11_mirror_87 : decode cX11_mirror 87 = .ok (.bipush 9, 2) := by decide +kernel
theorem dX11_mirror_89 : decode cX11_mirror 89 = .ok (.aload_n 0, 1) := by decide +kernel
theorem dX11_mirror_90 : decode cX11_mirror 90 = .ok (.iload_n 1, 1) := by decide +kernel
theorem dX11_mirror_91 : decode cX11_mirror 91 = .ok (.bipush 8, 2) := by decide +kernel
theorem dX11_mirror_93 : decode cX11_mirror 93 = .ok (.invokevirtual 175, 3) := by decide +kernel
theorem dX11_mirror_96 : decode cX11_mirror 96 = .ok (.iastore, 1) := by decide +kernel
theorem dX11_mirror_97 : decode cX11_mirror 97 = .ok (.aload_n 0, 1) := by decide +kernel
theorem dX11_mirror_98 : decode cX11_mirror 98 = .ok (.invokevirtual 168, 3) := by decide +kernel
theorem w_1608 : Cond.methodLink "QuarterWalksModel" 168 yX11_comes ∈ wAll := wI7 73 (by decide +kernel) (by decide +kernel)
theorem w_49 : Cond.selects yX11_comes.cls yX11_comes yX11_comes ∈ wAll := wIn 49 (by decide +kernel) (by decide +kernel)
theorem mk_X11_comes : mk yX11_comes 0 := ⟨by decide +kernel, w_110⟩
theorem w_1610 : Cond.instanceMethod yX11_comes ∈ wAll := wI7 75 (by decide +kernel) (by decide +kernel)
theorem w_1611 : Cond.code yX11_comes cX11_comes 2 (some .int) ∈ wAll := wI7 76 (by decide +kernel) (by decide +kernel)
theorem dX11_mirror_101 : decode cX11_mirror 101 = .ok (.ireturn, 1) := by decide +kernel
theorem dX11_mirror_36 : decode cX11_mirror 36 = .ok (.ireturn, 1) := by decide +kernel
theorem dX11_mirror_18 : decode cX11_mirror 18 = .ok (.ireturn, 1) := by decide +kernel
theorem dX11_turn_0 : decode cX11_turn 0 = .ok (.aload_n 0, 1) := by decide +kernel
theorem dX11_turn_1 : decode cX11_turn 1 = .ok (.iconst 0, 1) := by decide +kernel
theorem dX11_turn_2 : decode cX11_turn 2 = .ok (.putfield 75, 3) := by decide +kernel
theorem dX11_turn_5 : decode cX11_turn 5 = .ok (.aload_n 0, 1) := by decide +kernel
theorem dX11_turn_6 : decode cX11_turn 6 = .ok (.iload_n 1, 1) := by decide +kernel
theorem dX11_turn_7 : decode cX11_turn 7 = .ok (.invokevirtual 171, 3) := by decide +kernel
theorem dX11_turn_10 : decode cX11_turn 10 = .ok (.ifCond .ne 9, 3) := by decide +kernel
theorem dX11_turn_19 : decode cX11_turn 19 = .ok (.aload_n 0, 1) := by decide +kernel
theorem dX11_turn_20 : decode cX11_turn 20 = .ok (.getfield 17, 3) := by decide +kernel
theorem dX11_turn_23 : decode cX11_turn 23 = .ok (.bipush 80, 2) := by decide +kernel
theorem dX11_turn_25 : decode cX11_turn 25 = .ok (.iaload, 1) := by decide +kernel
theorem dX11_turn_26 : decode cX11_turn 26 = .ok (.bipush 8, 2) := by decide +kernel
theorem dX11_turn_28 : decode cX11_turn 28 = .ok (.if_icmp .ne 9, 3) := by decide +kernel
theorem dX11_turn_37 : decode cX11_turn 37 = .ok (.iconst 0, 1) := by decide +kernel
theorem dX11_turn_38 : decode cX11_turn 38 = .ok (.istore_n 2, 1) := by decide +kernel
theorem dX11_turn_31 : decode cX11_turn 31 = .ok (.aload_n 0, 1) := by decide +kernel
theorem dX11_turn_32 : decode cX11_turn 32 = .ok (.iconst 2, 1) := by decide +kernel
theorem dX11_turn_33 : decode cX11_turn 33 = .ok (.invokevirtual 165, 3) := by decide +kernel
theorem dX11_turn_13 : decode cX11_turn 13 = .ok (.aload_n 0, 1) := by decide +kernel
theorem dX11_turn_14 : decode cX11_turn 14 = .ok (.iconst 0, 1) := by decide +kernel
theorem dX11_turn_15 : decode cX11_turn 15 = .ok (.invokevirtual 165, 3) := by decide +kernel
theorem dX11_turn_39 : decode cX11_turn 39 = .ok (.iload_n 2, 1) := by decide +kernel
theorem dX11_turn_40 : decode cX11_turn 40 = .ok (.bipush 8, 2) := by decide +kernel
theorem dX11_turn_42 : decode cX11_turn 42 = .ok (.if_icmp .ge 26, 3) := by decide +kernel
theorem dX11_turn_45 : decode cX11_turn 45 = .ok (.aload_n 0, 1) := by decide +kernel
theorem dX11_turn_46 : decode cX11_turn 46 = .ok (.getfield 13, 3) := by decide +kernel
theorem dX11_turn_49 : decode cX11_turn 49 = .ok (.iload_n 2, 1) := by decide +kernel
theorem dX11_turn_50 : decode cX11_turn 50 = .ok (.iconst 4, 1) := by decide +kernel
theorem dX11_turn_51 : decode cX11_turn 51 = .ok (.iadd, 1) := by decide +kernel
theorem dX11_turn_52 : decode cX11_turn 52 = .ok (.bipush 8, 2) := by decide +kernel
theorem dX11_turn_54 : decode cX11_turn 54 = .ok (.irem, 1) := by decide +kernel
theorem dX11_turn_55 : decode cX11_turn 55 = .ok (.aload_n 0, 1) := by decide +kernel
theorem dX11_turn_56 : decode cX11_turn 56 = .ok (.iload_n 1, 1) := by decide +kernel
theorem dX11_turn_57 : decode cX11_turn 57 = .ok (.iload_n 2, 1) := by decide +kernel
theorem dX11_turn_58 : decode cX11_turn 58 = .ok (.invokevirtual 175, 3) := by decide +kernel
theorem dX11_turn_61 : decode cX11_turn 61 = .ok (.iastore, 1) := by decide +kernel
theorem dX11_turn_62 : decode cX11_turn 62 = .ok (.iinc 2 1, 3) := by decide +kernel
theorem dX11_turn_65 : decode cX11_turn 65 = .ok (.goto (-26), 3) := by decide +kernel
theorem dX11_turn_68 : decode cX11_turn 68 = .ok (.aload_n 0, 1) := by decide +kernel
theorem dX11_turn_69 : decode cX11_turn 69 = .ok (.getfield 13, 3) := by decide +kernel
theorem dX11_turn_72 : decode cX11_turn 72 = .ok (.bipush 8, 2) := by decide +kernel
theorem dX11_turn_74 : decode cX11_turn 74 = .ok (.aload_n 0, 1) := by decide +kernel
theorem dX11_turn_75 : decode cX11_turn 75 = .ok (.iload_n 1, 1) := by decide +kernel
theorem dX11_turn_76 : decode cX11_turn 76 = .ok (.bipush 8, 2) := by decide +kernel
theorem dX11_turn_78 : decode cX11_turn 78 = .ok (.invokevirtual 175, 3) := by decide +kernel
theorem dX11_turn_81 : decode cX11_turn 81 = .ok (.iastore, 1) := by decide +kernel
theorem dX11_turn_82 : decode cX11_turn 82 = .ok (.aload_n 0, 1) := by decide +kernel
theorem dX11_turn_83 : decode cX11_turn 83 = .ok (.getfield 13, 3) := by decide +kernel
theorem dX11_turn_86 : decode cX11_turn 86 = .ok (.bipush 9, 2) := by decide +kernel
theorem dX11_turn_88 : decode cX11_turn 88 = .ok (.aload_n 0, 1) := by decide +kernel
theorem dX11_turn_89 : decode cX11_turn 89 = .ok (.iload_n 1, 1) := by decide +kernel
theorem dX11_turn_90 : decode cX11_turn 90 = .ok (.bipush 9, 2) := by decide +kernel
theorem dX11_turn_92 : decode cX11_turn 92 = .ok (.invokevirtual 175, 3) := by decide +kernel
theorem dX11_turn_95 : decode cX11_turn 95 = .ok (.iastore, 1) := by decide +kernel
theorem dX11_turn_96 : decode cX11_turn 96 = .ok (.aload_n 0, 1) := by decide +kernel
theorem dX11_turn_97 : decode cX11_turn 97 = .ok (.invokevirtual 168, 3) := by decide +kernel
theorem dX11_turn_100 : decode cX11_turn 100 = .ok (.ireturn, 1) := by decide +kernel
theorem dX11_turn_36 : decode cX11_turn 36 = .ok (.ireturn, 1) := by decide +kernel
theorem dX11_turn_18 : decode cX11_turn 18 = .ok (.ireturn, 1) := by decide +kernel
theorem dX11_join_0 : decode cX11_join 0 = .ok (.aload_n 0, 1) := by decide +kernel
theorem dX11_join_1 : decode cX11_join 1 = .ok (.iconst 0, 1) := by decide +kernel
theorem dX11_join_2 : decode cX11_join 2 = .ok (.putfield 75, 3) := by decide +kernel
theorem dX11_join_5 : decode cX11_join 5 = .ok (.aload_n 0, 1) := by decide +kernel
theorem dX11_join_6 : decode cX11_join 6 = .ok (.iload_n 1, 1) := by decide +kernel
theorem dX11_join_7 : decode cX11_join 7 = .ok (.invokevirtual 171, 3) := by decide +kernel
theorem dX11_join_10 : decode cX11_join 10 = .ok (.ifCond .eq 11, 3) := by decide +kernel
theorem dX11_join_21 : decode cX11_join 21 = .ok (.aload_n 0, 1) := by decide +kernel
theorem dX11_join_22 : decode cX11_join 22 = .ok (.iconst 0, 1) := by decide +kernel
theorem dX11_join_23 : decode cX11_join 23 = .ok (.invokevirtual 165, 3) := by decide +kernel
theorem dX11_join_13 : decode cX11_join 13 = .ok (.aload_n 0, 1) := by decide +kernel
theorem dX11_join_14 : decode cX11_join 14 = .ok (.iload_n 2, 1) := by decide +kernel
theorem dX11_join_15 : decode cX11_join 15 = .ok (.invokevirtual 171, 3) := by decide +kernel
theorem dX11_join_18 : decode cX11_join 18 = .ok (.ifCond .ne 9, 3) := by decide +kernel
theorem dX11_join_27 : decode cX11_join 27 = .ok (.iconst 0, 1) := by decide +kernel
theorem dX11_join_28 : decode cX11_join 28 = .ok (.istore_n 3, 1) := by decide +kernel
theorem dX11_join_29 : decode cX11_join 29 = .ok (.iload_n 3, 1) := by decide +kernel
theorem dX11_join_30 : decode cX11_join 30 = .ok (.bipush 8, 2) := by decide +kernel
theorem dX11_join_32 : decode cX11_join 32 = .ok (.if_icmp .ge 45, 3) := by decide +kernel
theorem dX11_join_35 : decode cX11_join 35 = .ok (.aload_n 0, 1) := by decide +kernel
theorem dX11_join_36 : decode cX11_join 36 = .ok (.getfield 13, 3) := by decide +kernel
theorem dX11_join_39 : decode cX11_join 39 = .ok (.iload_n 3, 1) := by decide +kernel
theorem dX11_join_40 : decode cX11_join 40 = .ok (.aload_n 0, 1) := by decide +kernel
theorem dX11_join_41 : decode cX11_join 41 = .ok (.iload_n 1, 1) := by decide +kernel
theorem dX11_join_42 : decode cX11_join 42 = .ok (.iload_n 3, 1) := by decide +kernel
theorem dX11_join_43 : decode cX11_join 43 = .ok (.invokevirtual 175, 3) := by decide +kernel
theorem dX11_join_46 : decode cX11_join 46 = .ok (.aload_n 0, 1) := by decide +kernel
theorem dX11_join_47 : decode cX11_join 47 = .ok (.iload_n 2, 1) := by decide +kernel
theorem dX11_join_48 : decode cX11_join 48 = .ok (.iload_n 3, 1) := by decide +kernel
theorem dX11_join_49 : decode cX11_join 49 = .ok (.invokevirtual 175, 3) := by decide +kernel
theorem dX11_join_52 : decode cX11_join 52 = .ok (.iadd, 1) := by decide +kernel
theorem dX11_join_53 : decode cX11_join 53 = .ok (.iastore, 1) := by decide +kernel
theorem dX11_join_54 : decode cX11_join 54 = .ok (.aload_n 0, 1) := by decide +kernel
theorem dX11_join_55 : decode cX11_join 55 = .ok (.getfield 13, 3) := by decide +kernel
theorem dX11_join_58 : decode cX11_join 58 = .ok (.iload_n 3, 1) := by decide +kernel
theorem dX11_join_59 : decode cX11_join 59 = .ok (.iaload, 1) := by decide +kernel
theorem dX11_join_60 : decode cX11_join 60 = .ok (.bipush 9, 2) := by decide +kernel
theorem dX11_join_62 : decode cX11_join 62 = .ok (.if_icmp .le 9, 3) := by decide +kernel
theorem dX11_join_71 : decode cX11_join 71 = .ok (.iinc 3 1, 3) := by decide +kernel
theorem dX11_join_74 : decode cX11_join 74 = .ok (.goto (-45), 3) := by decide +kernel
theorem dX11_join_65 : decode cX11_join 65 = .ok (.aload_n 0, 1) := by decide +kernel
theorem dX11_join_66 : decode cX11_join 66 = .ok (.iconst 1, 1) := by decide +kernel
theorem dX11_join_67 : decode cX11_join 67 = .ok (.invokevirtual 165, 3) := by decide +kernel
theorem dX11_join_77 : decode cX11_join 77 = .ok (.aload_n 0, 1) := by decide +kernel
theorem dX11_join_78 : decode cX11_join 78 = .ok (.getfield 17, 3) := by decide +kernel
theorem dX11_join_81 : decode cX11_join 81 = .ok (.bipush 80, 2) := by decide +kernel
theorem dX11_join_83 : decode cX11_join 83 = .ok (.iaload, 1) := by decide +kernel
theorem dX11_join_84 : decode cX11_join 84 = .ok (.bipush 8, 2) := by decide +kernel
theorem dX11_join_86 : decode cX11_join 86 = .ok (.if_icmp .ne 9, 3) := by decide +kernel
theorem dX11_join_95 : decode cX11_join 95 = .ok (.aload_n 0, 1) := by decide +kernel
theorem dX11_join_96 : decode cX11_join 96 = .ok (.getfield 13, 3) := by decide +kernel
theorem dX11_join_99 : decode cX11_join 99 = .ok (.bipush 8, 2) := by decide +kernel
theorem dX11_join_101 : decode cX11_join 101 = .ok (.aload_n 0, 1) := by decide +kernel
theorem dX11_join_102 : decode cX11_join 102 = .ok (.iload_n 1, 1) := by decide +kernel
theorem dX11_join_103 : decode cX11_join 103 = .ok (.bipush 8, 2) := by decide +kernel
theorem dX11_join_105 : decode cX11_join 105 = .ok (.invokevirtual 175, 3) := by decide +kernel
theorem dX11_join_108 : decode cX11_join 108 = .ok (.iastore, 1) := by decide +kernel
theorem dX11_join_109 : decode cX11_join 109 = .ok (.aload_n 0, 1) := by decide +kernel
theorem dX11_join_110 : decode cX11_join 110 = .ok (.getfield 13, 3) := by decide +kernel
theorem dX11_join_113 : decode cX11_join 113 = .ok (.bipush 9, 2) := by decide +kernel
theorem dX11_join_115 : decode cX11_join 115 = .ok (.aload_n 0, 1) := by decide +kernel
theorem dX11_join_116 : decode cX11_join 116 = .ok (.iload_n 1, 1) := by decide +kernel
theorem dX11_join_117 : decode cX11_join 117 = .ok (.bipush 9, 2) := by decide +kernel
theorem dX11_join_119 : decode cX11_join 119 = .ok (.invokevirtual 175, 3) := by decide +kernel
theorem dX11_join_122 : decode cX11_join 122 = .ok (.iastore, 1) := by decide +kernel
theorem dX11_join_123 : decode cX11_join 123 = .ok (.aload_n 0, 1) := by decide +kernel
theorem dX11_join_124 : decode cX11_join 124 = .ok (.invokevirtual 168, 3) := by decide +kernel
theorem dX11_join_89 : decode cX11_join 89 = .ok (.aload_n 0, 1) := by decide +kernel
theorem dX11_join_90 : decode cX11_join 90 = .ok (.iconst 2, 1) := by decide +kernel
theorem dX11_join_91 : decode cX11_join 91 = .ok (.invokevirtual 165, 3) := by decide +kernel
theorem dX11_join_127 : decode cX11_join 127 = .ok (.ireturn, 1) := by decide +kernel
theorem dX11_join_94 : decode cX11_join 94 = .ok (.ireturn, 1) := by decide +kernel
theorem dX11_join_70 : decode cX11_join 70 = .ok (.ireturn, 1) := by decide +kernel
theorem dX11_join_26 : decode cX11_join 26 = .ok (.ireturn, 1) := by decide +kernel
theorem dX11_undo_0 : decode cX11_undo 0 = .ok (.aload_n 0, 1) := by decide +kernel
theorem dX11_undo_1 : decode cX11_undo 1 = .ok (.iconst 0, 1) := by decide +kernel
theorem dX11_undo_2 : decode cX11_undo 2 = .ok (.putfield 75, 3) := by decide +kernel
theorem dX11_undo_5 : decode cX11_undo 5 = .ok (.aload_n 0, 1) := by decide +kernel
theorem dX11_undo_6 : decode cX11_undo 6 = .ok (.getfield 155, 3) := by decide +kernel
theorem dX11_undo_9 : decode cX11_undo 9 = .ok (.ifCond .ne 5, 3) := by decide +kernel
theorem dX11_undo_14 : decode cX11_undo 14 = .ok (.aload_n 0, 1) := by decide +kernel
theorem dX11_undo_15 : decode cX11_undo 15 = .ok (.dup, 1) := by decide +kernel
theorem dX11_undo_16 : decode cX11_undo 16 = .ok (.getfield 155, 3) := by decide +kernel
theorem dX11_undo_19 : decode cX11_undo 19 = .ok (.iconst 1, 1) := by decide +kernel
theorem dX11_undo_20 : decode cX11_undo 20 = .ok (.isub, 1) := by decide +kernel
theorem dX11_undo_21 : decode cX11_undo 21 = .ok (.putfield 155, 3) := by decide +kernel
theorem dX11_undo_24 : decode cX11_undo 24 = .ok (.iconst 0, 1) := by decide +kernel
theorem dX11_undo_25 : decode cX11_undo 25 = .ok (.istore_n 1, 1) := by decide +kernel
theorem dX11_undo_12 : decode cX11_undo 12 = .ok (.iconst (-1), 1) := by decide +kernel
theorem dX11_undo_26 : decode cX11_undo 26 = .ok (.iload_n 1, 1) := by decide +kernel
theorem dX11_undo_27 : decode cX11_undo 27 = .ok (.bipush 81, 2) := by decide +kernel
theorem dX11_undo_29 : decode cX11_undo 29 = .ok (.if_icmp .ge 29, 3) := by decide +kernel
theorem dX11_undo_32 : decode cX11_undo 32 = .ok (.aload_n 0, 1) := by decide +kernel
theorem dX11_undo_33 : decode cX11_undo 33 = .ok (.getfield 17, 3) := by decide +kernel
theorem dX11_undo_36 : decode cX11_undo 36 = .ok (.iload_n 1, 1) := by decide +kernel
theorem dX11_undo_37 : decode cX11_undo 37 = .ok (.aload_n 0, 1) := by decide +kernel
theorem dX11_undo_38 : decode cX11_undo 38 = .ok (.getfield 23, 3) := by decide +kernel
theorem dX11_undo_41 : decode cX11_undo 41 = .ok (.bipush 81, 2) := by decide +kernel
theorem dX11_undo_43 : decode cX11_undo 43 = .ok (.aload_n 0, 1) := by decide +kernel
theorem dX11_undo_44 : decode cX11_undo 44 = .ok (.getfield 155, 3) := by decide +kernel
theorem dX11_undo_47 : decode cX11_undo 47 = .ok (.imul, 1) := by decide +kernel
theorem dX11_undo_48 : decode cX11_undo 48 = .ok (.iload_n 1, 1) := by decide +kernel
theorem dX11_undo_49 : decode cX11_undo 49 = .ok (.iadd, 1) := by decide +kernel
theorem dX11_undo_50 : decode cX11_undo 50 = .ok (.iaload, 1) := by decide +kernel
theorem dX11_undo_51 : decode cX11_undo 51 = .ok (.iastore, 1) := by decide +kernel
theorem dX11_undo_52 : decode cX11_undo 52 = .ok (.iinc 1 1, 3) := by decide +kernel
theorem dX11_undo_55 : decode cX11_undo 55 = .ok (.goto (-29), 3) := by decide +kernel
theorem dX11_undo_58 : decode cX11_undo 58 = .ok (.aload_n 0, 1) := by decide +kernel
theorem dX11_undo_59 : decode cX11_undo 59 = .ok (.getfield 155, 3) := by decide +kernel
theorem dX11_undo_62 : decode cX11_undo 62 = .ok (.ireturn, 1) := by decide +kernel
theorem dX11_undo_13 : decode cX11_undo 13 = .ok (.ireturn, 1) := by decide +kernel
theorem dX11_image_0 : decode cX11_image 0 = .ok (.aload_n 0, 1) := by decide +kernel
theorem dX11_image_1 : decode cX11_image 1 = .ok (.iconst 0, 1) := by decide +kernel
theorem dX11_image_2 : decode cX11_image 2 = .ok (.putfield 75, 3) := by decide +kernel
theorem dX11_image_5 : decode cX11_image 5 = .ok (.iconst 0, 1) := by decide +kernel
theorem dX11_image_6 : decode cX11_image 6 = .ok (.istore_n 1, 1) := by decide +kernel
theorem dX11_image_7 : decode cX11_image 7 = .ok (.iload_n 1, 1) := by decide +kernel
theorem dX11_image_8 : decode cX11_image 8 = .ok (.bipush 81, 2) := by decide +kernel
theorem dX11_image_10 : decode cX11_image 10 = .ok (.if_icmp .ge 21, 3) := by decide +kernel
theorem dX11_image_13 : decode cX11_image 13 = .ok (.aload_n 0, 1) := by decide +kernel
theorem dX11_image_14 : decode cX11_image 14 = .ok (.getfield 20, 3) := by decide +kernel
theorem w_1440 : Cond.fieldLink "QuarterWalksModel" 20 "QuarterWalksModel" "image" "[I" ∈ wAll := wI6 145 (by decide +kernel) (by decide +kernel)
theorem fl_X11_20 : fl RX11 20 12 7 := ⟨RX11, TX11, 32, rfl, inA_X11, by decide, w_1440⟩
theorem dX11_image_17 : decode cX11_image 17 = .ok (.iload_n 1, 1) := by decide +kernel
theorem dX11_image_18 : decode cX11_image 18 = .ok (.aload_n 0, 1) := by decide +kernel
theorem dX11_image_19 : decode cX11_image 19 = .ok (.getfield 17, 3) := by decide +kernel
theorem dX11_image_22 : decode cX11_image 22 = .ok (.iload_n 1, 1) := by decide +kernel
theorem dX11_image_23 : decode cX11_image 23 = .ok (.iaload, 1) := by decide +kernel
theorem dX11_image_24 : decode cX11_image 24 = .ok (.iastore, 1) := by decide +kernel
theorem dX11_image_25 : decode cX11_image 25 = .ok (.iinc 1 1, 3) := by decide +kernel
theorem dX11_image_28 : decode cX11_image 28 = .ok (.goto (-21), 3) := by decide +kernel
theorem dX11_image_31 : decode cX11_image 31 = .ok (.aload_n 0, 1) := by decide +kernel
theorem dX11_image_32 : decode cX11_image 32 = .ok (.iconst 1, 1) := by decide +kernel
theorem dX11_image_33 : decode cX11_image 33 = .ok (.putfield 437, 3) := by decide +kernel
theorem w_1444 : Cond.fieldLink "QuarterWalksModel" 437 "QuarterWalksModel" "hasImage" "Z" ∈ wAll := wI6 149 (by decide +kernel) (by decide +kernel)
theorem flw_X11_437 : flw RX11 437 12 11 (.boolean) := ⟨RX11, TX11, 32, tyX11, rfl, inA_X11, by decide, w_1444, tyX11_ok, nmX11, by decide +kernel, Or.inl rfl⟩
theorem dX11_image_36 : decode cX11_image 36 = .ok (.aload_n 0, 1) := by decide +kernel
theorem dX11_image_37 : decode cX11_image 37 = .ok (.getfield 17, 3) := by decide +kernel
theorem dX11_image_40 : decode cX11_image 40 = .ok (.bipush 80, 2) := by decide +kernel
theorem dX11_image_42 : decode cX11_image 42 = .ok (.iaload, 1) := by decide +kernel
theorem dX11_image_43 : decode cX11_image 43 = .ok (.ireturn, 1) := by decide +kernel
theorem dX11_back_0 : decode cX11_back 0 = .ok (.aload_n 0, 1) := by decide +kernel
theorem dX11_back_1 : decode cX11_back 1 = .ok (.iconst 0, 1) := by decide +kernel
theorem dX11_back_2 : decode cX11_back 2 = .ok (.putfield 75, 3) := by decide +kernel
theorem dX11_back_5 : decode cX11_back 5 = .ok (.aload_n 0, 1) := by decide +kernel
theorem dX11_back_6 : decode cX11_back 6 = .ok (.getfield 437, 3) := by decide +kernel
theorem fl_X11_437 : fl RX11 437 12 11 := ⟨RX11, TX11, 32, rfl, inA_X11, by decide, w_1444⟩
theorem dX11_back_9 : decode cX11_back 9 = .ok (.ifCond .ne 5, 3) := by decide +kernel
theorem dX11_back_14 : decode cX11_back 14 = .ok (.iconst 0, 1) := by decide +kernel
theorem dX11_back_15 : decode cX11_back 15 = .ok (.istore_n 1, 1) := by decide +kernel
theorem dX11_back_12 : decode cX11_back 12 = .ok (.iconst (-1), 1) := by decide +kernel
theorem dX11_back_16 : decode cX11_back 16 = .ok (.iload_n 1, 1) := by decide +kernel
theorem dX11_back_17 : decode cX11_back 17 = .ok (.bipush 81, 2) := by decide +kernel
theorem dX11_back_19 : decode cX11_back 19 = .ok (.if_icmp .ge 21, 3) := by decide +kernel
theorem dX11_back_22 : decode cX11_back 22 = .ok (.aload_n 0, 1) := by decide +kernel
theorem dX11_back_23 : decode cX11_back 23 = .ok (.getfield 17, 3) := by decide +kernel
theorem dX11_back_26 : decode cX11_back 26 = .ok (.iload_n 1, 1) := by decide +kernel
theorem dX11_back_27 : decode cX11_back 27 = .ok (.aload_n 0, 1) := by decide +kernel
theorem dX11_back_28 : decode cX11_back 28 = .ok (.getfield 20, 3) := by decide +kernel
theorem dX11_back_31 : decode cX11_back 31 = .ok (.iload_n 1, 1) := by decide +kernel
theorem dX11_back_32 : decode cX11_back 32 = .ok (.iaload, 1) := by decide +kernel
theorem dX11_back_33 : decode cX11_back 33 = .ok (.iastore, 1) := by decide +kernel
theorem dX11_back_34 : decode cX11_back 34 = .ok (.iinc 1 1, 3) := by decide +kernel
theorem dX11_back_37 : decode cX11_back 37 = .ok (.goto (-21), 3) := by decide +kernel
theorem dX11_back_40 : decode cX11_back 40 = .ok (.aload_n 0, 1) := by decide +kernel
theorem dX11_back_41 : decode cX11_back 41 = .ok (.iconst 0, 1) := by decide +kernel
theorem dX11_back_42 : decode cX11_back 42 = .ok (.putfield 155, 3) := by decide +kernel
theorem dX11_back_45 : decode cX11_back 45 = .ok (.aload_n 0, 1) := by decide +kernel
theorem dX11_back_46 : decode cX11_back 46 = .ok (.getfield 17, 3) := by decide +kernel
theorem dX11_back_49 : decode cX11_back 49 = .ok (.bipush 80, 2) := by decide +kernel
theorem dX11_back_51 : decode cX11_back 51 = .ok (.iaload, 1) := by decide +kernel
theorem dX11_back_52 : decode cX11_back 52 = .ok (.ireturn, 1) := by decide +kernel
theorem dX11_back_13 : decode cX11_back 13 = .ok (.ireturn, 1) := by decide +kernel
abbrev rm_s_X11_mirrorX : Room := { frames := 2, cells := 0, slots := 0, locals := 46 }
set_option maxRecDepth 100000 in
set_option maxHeartbeats 4000000 in
theorem s_X11_mirrorX (l : Launch) (D : va_G) (G : Nat → Nat) (b0 : Nat) (τ : Nat → Nat) (f : hM) (t : TI G 9 τ f) (u0 : Nat) (hu0 : τ u0 = 60) (u1 : Int32) (hu1 : iv u1 (-2147483648) 2147483647) (ac : Int32) (hac : iv ac 0 12) (k_u0_10 : atp f u0 (fd 10 (.int ac))) (bq : Nat) (hbq : τ bq = 63) (k_u0_6 : atp f u0 (fd 6 (.ref bq))) (kq : Nat) (hkq : τ kq = 65) (k_u0_8 : atp f u0 (fd 8 (.ref kq))) (dq : Nat) (hdq : τ dq = 62) (k_u0_5 : atp f u0 (fd 5 (.ref dq))) (fq : Nat) (hfq : τ fq = 66) (k_u0_9 : atp f u0 (fd 9 (.ref fq))) (rb : Nat → Int32) (hRbq : atp f bq (eqc (.inl (G 1, 81, .inl rb)))) (rk : Nat → Int32) (hRkq : atp f kq (eqc (.inl (G 1, 972, .inl rk)))) (rd : Nat → Int32) (hRdq : atp f dq (eqc (.inl (G 1, 10, .inl rd)))) (rr : Nat → Int32) (hRfq : atp f fq (eqc (.inl (G 1, 4, .inl rr)))) (hb9 : ∀ k : Nat, k < 80 → iv (rb k) 0 9) : mI l yX11_mirror cX11_mirror 3 (.int) rm_s_X11_mirrorX D G b0 f [.ref u0, .int u1] (fun r f1 => iv r (-1) 7 ∧ TI G 9 τ f1 ∧ Fr [60, 62, 63, 65, 66, 60001, 60011] τ f f1 ∧ (((((0 ≤ u1.toInt ∧ u1.toInt < (rb 80).toInt) ∧ (rb 80).toInt ≤ 7)) → r.toInt = (rb 80).toInt) ∧ (¬ (((0 ≤ u1.toInt ∧ u1.toInt < (rb 80).toInt) ∧ (rb 80).toInt ≤ 7)) → r.toInt = -1)) ∧ (∃ ac1 : Int32, atp f1 u0 (fd 10 (.int ac1)) ∧ iv ac1 0 12 ∧ ((((0 ≤ u1.toInt ∧ u1.toInt < (rb 80).toInt) ∧ (rb 80).toInt ≤ 7)) → ((ac.toInt = 12 → ac1.toInt = 12) ∧ (ac.toInt ≠ 12 → ac1.toInt = ac.toInt + 1))) ∧ (¬ (((0 ≤ u1.toInt ∧ u1.toInt < (rb 80).toInt) ∧ (rb 80).toInt ≤ 7)) → ac1.toInt = ac.toInt)) ∧ (∃ rb1 : Nat → Int32, atp f1 bq (eqc (.inl (G 1, 81, .inl rb1))) ∧ (∀ k : Nat, k < 81 → rb1 k = if ((0 ≤ u1.toInt ∧ u1.toInt < (rb 80).toInt) ∧ (rb 80).toInt ≤ 7) then cm rb (mi rb u1.toInt) k else rb k)) ∧ (∃ rk1 : Nat → Int32, atp f1 kq (eqc (.inl (G 1, 972, .inl rk1))) ∧ (∀ k : Nat, k < 972 → rk1 k = if ((0 ≤ u1.toInt ∧ u1.toInt < (rb 80).toInt) ∧ (rb 80).toInt ≤ 7) then kp rk rb ac.toInt k else rk k)) ∧ (∃ rr1 : Nat → Int32, atp f1 fq (eqc (.inl (G 1, 4, .inl rr1))) ∧ (∀ k : Nat, k < 4 → rr1 k = if (k : Int) = (if ¬ (0 ≤ u1.toInt ∧ u1.toInt < (rb 80).toInt) then 0 else (if ¬ ((rb 80).toInt ≤ 7) then 2 else -1)) then rr k + 1 else rr k))) := by
  refine met2 (own := RX11) (by decide) rfl (Nat.le_of_ble_eq_true rfl) ?_
  intro p e s m args below meth c ls Q hQ C hr hini hl h
  have hl : lv_has ls 3 [(0, .ref u0), (1, .int u1)] := hl
  obtain ⟨hx, hb, hml, hown, hts, hE0, hlk⟩ := id C
  have o := Fr.rf [60, 62, 63, 65, 66, 60001, 60011] τ f
  have L39 : ∀ (n39 : Nat) (ls : Array Slot) (f_39 : hM) (H : Heap) (locs : List Loc) (v39_2 : Int32) (g39_dq_R : Nat → Int32), 8 - v39_2.toInt < (n39 : Int) → lv_has ls 3 [(0, .ref u0), (1, .int u1), (2, .int v39_2)] → hw D b0 s.heap f_39 H locs → TI G 9 τ f_39 → Fr [60, 62, 63, 65, 66, 60001, 60011] τ f f_39 → iv u1 0 7 → iv v39_2 0 8 → atp f_39 u0 (fd 10 (.int ac)) → atp f_39 u0 (fd 6 (.ref bq)) → atp f_39 u0 (fd 8 (.ref kq)) → atp f_39 u0 (fd 5 (.ref dq)) → atp f_39 u0 (fd 9 (.ref fq)) → atp f_39 bq (eqc (.inl (G 1, 81, .inl rb))) → atp f_39 kq (eqc (.inl (G 1, 972, .inl rk))) → atp f_39 dq (eqc (.inl (G 1, 10, .inl g39_dq_R))) → atp f_39 fq (eqc (.inl (G 1, 4, .inl rr))) → 0 ≤ u1.toInt ∧ u1.toInt < (rb 80).toInt → (rb 80).toInt ≤ 7 → (∀ k : Nat, g39_dq_R k = if k < 8 ∧ ((10 - (k : Int)) % 8) < v39_2.toInt then rb (10 * u1.toInt + (10 - (k : Int)) % 8).toNat else rd k) → W p l e rm_s_X11_mirrorX s m args below meth c H locs 0 0 Q (F0 m 39 ls []) := by
    intro n39
    induction n39 with
    | zero => intro ls f_39 H locs v39_2 g39_dq_R hm39 hl h t_39 o_39 jv39_1 iv39_2 k39_u0_10 k39_u0_6 k39_u0_8 k39_u0_5 k39_u0_9 k39_bq_R k39_kq_R k39_dq_R k39_fq_R hv39_0 hv39_1 hv39_2; exact absurd hm39 (by omega)
    | succ n39 ih39 =>
      intro ls f_39 H locs v39_2 g39_dq_R hm39 hl h t_39 o_39 jv39_1 iv39_2 k39_u0_10 k39_u0_6 k39_u0_8 k39_u0_5 k39_u0_9 k39_bq_R k39_kq_R k39_dq_R k39_fq_R hv39_0 hv39_1 hv39_2
      refine lv_iload_n hx hb dX11_mirror_39 rfl (lv_at hl 2 rfl) ?_
      refine lv_bipush (v := 8) hx hb dX11_mirror_40 (by decide) ?_
      refine lv_icmp_ge (tgt := 69) hx hb dX11_mirror_42 (by decide) (fun c1 => ?_) (fun c1 => ?_)
      · have c2 : 8 ≤ v39_2.toInt := Int32.le_iff_toInt_le.mp c1
        have i3 : iv v39_2 8 8 := iv_Er c2 (iv_k (x := 8) (k := 8) rfl) iv39_2 (by decide)
        refine lv_aload_n hx hb dX11_mirror_69 rfl (lv_at hl 0 rfl) ?_
        refine t_getfd C h t_39 hu0 (by decide) wf_60 (v := .ref dq) k39_u0_5 fl_X11_13 dX11_mirror_70 ?_
        refine lv_bipush (v := 8) hx hb dX11_mirror_73 (by decide) ?_
        refine lv_aload_n hx hb dX11_mirror_75 rfl (lv_at hl 0 rfl) ?_
        refine lv_iload_n hx hb dX11_mirror_76 rfl (lv_at hl 1 rfl) ?_
        refine lv_bipush (v := 9) hx hb dX11_mirror_77 (by decide) ?_
        obtain ⟨_, r6⟩ := t_rec t_39 hu0 (by decide) wf_60
        refine k_i (r_V C h hl (As := [.int u1, .int 9]) (rest := [.int 8, .ref dq]) (s_X11_weightOfX l D G b0 τ f_39 t_39 u0 hu0 u1 jv39_1 9 (iv_w (iv_k (x := 9) (k := 9) rfl) (by decide)) bq hbq k39_u0_6 rb k39_bq_R) r6 (Cn := RX11) (T := TX11) (N := 32) rfl rfl mk_X11_weightOf w_1631 w_1633 w_52 w_1634 ⟨Nat.le_of_ble_eq_true rfl, Nat.le_of_ble_eq_true rfl⟩ rfl (Nat.le_of_ble_eq_true rfl) ⟨Nat.le_of_ble_eq_true rfl, Nat.le_of_ble_eq_true rfl⟩ rfl dX11_mirror_79) h (fun r7 f8 H locs p9 h => ?_)
        have n10 : (9 : Int32).toInt = 9 := rfl
        obtain ⟨ir7, tf8, ogf8, x0r7, x1r7⟩ := p9
        have x0r7 : r7 = (rb (10 * u1.toInt + 9).toNat) := x0r7
        have x1r7 : r7.toInt = (rb (10 * u1.toInt + 9).toNat).toInt := x1r7
        have egf8 := Fr.nil2 ogf8
        subst egf8
        refine e_iast C h t_39 o_39 hdq (by decide) (by decide) wf_62 fw_62 k39_dq_R (by unfold vp_in; decide) (iv_w ir7 (by decide)) dX11_mirror_82 (fun R13 f11 erR13 H locs h tf11 of11 hq hn_ k12 => ?_)
        have erR13 : R13 = upd g39_dq_R 8 r7 := erR13
        have k14 := atp.tg k39_u0_10 hq hu0 (by decide)
        have k15 := atp.tg k39_u0_6 hq hu0 (by decide)
        have k16 := atp.tg k39_u0_8 hq hu0 (by decide)
        have k17 := atp.tg k39_u0_5 hq hu0 (by decide)
        have k18 := atp.tg k39_u0_9 hq hu0 (by decide)
        have k19 := atp.tg k39_bq_R hq hbq (by decide)
        have k20 := atp.tg k39_kq_R hq hkq (by decide)
        have k22 := atp.tg k39_fq_R hq hfq (by decide)
        refine lv_aload_n hx hb dX11_mirror_83 rfl (lv_at hl 0 rfl) ?_
        refine t_getfd C h tf11 hu0 (by decide) wf_60 (v := .ref dq) k17 fl_X11_13 dX11_mirror_84 ?_
        refine lv_bipush (v := 9) hx hb dX11_mirror_87 (by decide) ?_
        refine lv_aload_n hx hb dX11_mirror_89 rfl (lv_at hl 0 rfl) ?_
        refine lv_iload_n hx hb dX11_mirror_90 rfl (lv_at hl 1 rfl) ?_
        refine lv_bipush (v := 8) hx hb dX11_mirror_91 (by decide) ?_
        obtain ⟨_, r23⟩ := t_rec tf11 hu0 (by decide) wf_60
        refine k_i (r_V C h hl (As := [.int u1, .int 8]) (rest := [.int 9, .ref dq]) (s_X11_weightOfX l D G b0 τ f11 tf11 u0 hu0 u1 jv39_1 8 (iv_w (iv_k (x := 8) (k := 8) rfl) (by decide)) bq hbq k15 rb k19) r23 (Cn := RX11) (T := TX11) (N := 32) rfl rfl mk_X11_weightOf w_1631 w_1633 w_52 w_1634 ⟨Nat.le_of_ble_eq_true rfl, Nat.le_of_ble_eq_true rfl⟩ rfl (Nat.le_of_ble_eq_true rfl) ⟨Nat.le_of_ble_eq_true rfl, Nat.le_of_ble_eq_true rfl⟩ rfl dX11_mirror_93) h (fun r24 f25 H locs p26 h => ?_)
        have n27 : (8 : Int32).toInt = 8 := rfl
        obtain ⟨ir24, tf25, ogf25, x0r24, x1r24⟩ := p26
        have x0r24 : r24 = (rb (10 * u1.toInt + 8).toNat) := x0r24
        have x1r24 : r24.toInt = (rb (10 * u1.toInt + 8).toNat).toInt := x1r24
        have egf25 := Fr.nil2 ogf25
        subst egf25
        refine e_iast C h tf11 of11 hdq (by decide) (by decide) wf_62 fw_62 k12 (by unfold vp_in; decide) (iv_w ir24 (by decide)) dX11_mirror_96 (fun R30 f28 erR30 H locs h tf28 of28 hq hn_ k29 => ?_)
        have erR30 : R30 = upd R13 9 r24 := erR30
        have k31 := atp.tg k14 hq hu0 (by decide)
        have k32 := atp.tg k15 hq hu0 (by decide)
        have k33 := atp.tg k16 hq hu0 (by decide)
        have k34 := atp.tg k17 hq hu0 (by decide)
        have k35 := atp.tg k18 hq hu0 (by decide)
        have k36 := atp.tg k19 hq hbq (by decide)
        have k37 := atp.tg k20 hq hkq (by decide)
        have k38 := atp.tg k22 hq hfq (by decide)
        refine lv_aload_n hx hb dX11_mirror_97 rfl (lv_at hl 0 rfl) ?_
        have hfd : ∀ k : Nat, k < 10 → R30 k = mi rb u1.toInt k := fun k hk => by
          rw [erR30, erR13]; unfold mi
          by_cases q9 : k = 9
          · rw [upd_at q9, x0r24]; (repeat' split) <;> first | rfl | (exfalso; omega) | (exact congrArg _ (by omega))
          · rw [upd_off q9]; by_cases q8 : k = 8
            · rw [upd_at q8, x0r7]; (repeat' split) <;> first | rfl | (exfalso; omega) | (exact congrArg _ (by omega))
            · rw [upd_off q8, hv39_2 k]; (repeat' split) <;> first | rfl | (exfalso; omega) | (exact congrArg _ (by omega))
        obtain ⟨_, r40⟩ := t_rec tf28 hu0 (by decide) wf_60
        refine k_i (r_V C h hl (As := []) (rest := []) (s_X11_comesX l D G b0 τ f28 tf28 u0 hu0 ac hac k31 bq hbq k32 kq hkq k33 dq hdq k34 rb k36 rk k37 R30 k29 (fun k hk => by rw [hfd k hk]; unfold mi; (repeat' split) <;> exact hb9 _ (by omega)) (by omega)) r40 (Cn := RX11) (T := TX11) (N := 32) rfl rfl mk_X11_comes w_1608 w_1610 w_49 w_1611 ⟨Nat.le_of_ble_eq_true rfl, Nat.le_of_ble_eq_true rfl⟩ rfl (Nat.le_of_ble_eq_true rfl) ⟨Nat.le_of_ble_eq_true rfl, Nat.le_of_ble_eq_true rfl⟩ rfl dX11_mirror_98) h (fun r41 f42 H locs p43 h => ?_)
        obtain ⟨ir41, tf42, ogf42, x0r41, ⟨ac1_f42, kpu0_10f42, ipu0_10f42, rpu0_10f42⟩, ⟨rb1_f42, kRbqf42, pRbqf42⟩, ⟨rk1_f42, kRkqf42, pRkqf42⟩⟩ := p43
        have of42 : Fr [60, 62, 63, 65, 66, 60001, 60011] τ f f42 := Fr.tr of28 ogf42 (by decide) (by decide)
        have k44 := atp.fk k32 ogf42 hu0 (by decide) (by decide)
        have k45 := atp.fk k33 ogf42 hu0 (by decide) (by decide)
        have k46 := atp.fk k34 ogf42 hu0 (by decide) (by decide)
        have k47 := atp.fk k35 ogf42 hu0 (by decide) (by decide)
        have k48 := atp.fr k38 ogf42 hfq (by decide)
        have k49 := atp.fr k29 ogf42 hdq (by decide)
        exact u_iret C h hr hQ (⟨ir41, tf42, of42, ⟨fun _ => (by omega), fun z_ => (z_ (by omega)).elim⟩, ⟨ac1_f42, kpu0_10f42, (iv_w ipu0_10f42 (by decide)), ⟨fun _ => (by omega), fun z_ => (z_ (by omega)).elim⟩⟩, ⟨rb1_f42, kRbqf42, (fun k hk => by
            rw [if_pos (by omega)]
            rw [pRbqf42 k hk]; exact cme_eq hfd (by omega) k hk)⟩, ⟨rk1_f42, kRkqf42, (fun k hk => by rw [if_pos (by omega)]; exact pRkqf42 k hk)⟩, ⟨rr, k48, (bump_no (by rw [if_neg (by omega), if_neg (by omega)]))⟩⟩) (Nat.le_of_ble_eq_true rfl) (Nat.le_of_ble_eq_true rfl) dX11_mirror_101
      · have c4 : v39_2.toInt < 8 := Int32.lt_iff_toInt_lt.mp (iv_nle c1)
        have i5 : iv v39_2 0 7 := iv_Ll c4 iv39_2 (iv_k (x := 8) (k := 8) rfl) (by decide)
        refine lv_aload_n hx hb dX11_mirror_45 rfl (lv_at hl 0 rfl) ?_
        refine t_getfd C h t_39 hu0 (by decide) wf_60 (v := .ref dq) k39_u0_5 fl_X11_13 dX11_mirror_46 ?_
        refine lv_bipush (v := 10) hx hb dX11_mirror_49 (by decide) ?_
        refine lv_iload_n hx hb dX11_mirror_51 rfl (lv_at hl 2 rfl) ?_
        refine i_ksub hx hb dX11_mirror_52 (k := 10) rfl i5 (lo := 3) (hi := 10) (by decide) (fun z50 ez50 mz50 iz50 => ?_)
        refine lv_bipush (v := 8) hx hb dX11_mirror_53 (by decide) ?_
        refine lv_irem hx hb dX11_mirror_55 (by decide) (i_topm (P := fun q_ => q_ = Int32.toInt z50 % 8) (iv_remx (k := 8) (iv_w iz50 (by decide) : iv _ 0 10) rfl (by decide)) (fun z51 ez51 mz51 iz51 => ?_))
        refine lv_aload_n hx hb dX11_mirror_56 rfl (lv_at hl 0 rfl) ?_
        refine lv_iload_n hx hb dX11_mirror_57 rfl (lv_at hl 1 rfl) ?_
        refine lv_iload_n hx hb dX11_mirror_58 rfl (lv_at hl 2 rfl) ?_
        obtain ⟨_, r52⟩ := t_rec t_39 hu0 (by decide) wf_60
        refine k_i (r_V C h hl (As := [.int u1, .int v39_2]) (rest := [.int z51, .ref dq]) (s_X11_weightOfX l D G b0 τ f_39 t_39 u0 hu0 u1 jv39_1 v39_2 (iv_w i5 (by decide)) bq hbq k39_u0_6 rb k39_bq_R) r52 (Cn := RX11) (T := TX11) (N := 32) rfl rfl mk_X11_weightOf w_1631 w_1633 w_52 w_1634 ⟨Nat.le_of_ble_eq_true rfl, Nat.le_of_ble_eq_true rfl⟩ rfl (Nat.le_of_ble_eq_true rfl) ⟨Nat.le_of_ble_eq_true rfl, Nat.le_of_ble_eq_true rfl⟩ rfl dX11_mirror_59) h (fun r53 f54 H locs p55 h => ?_)
        obtain ⟨ir53, tf54, ogf54, x0r53, x1r53⟩ := p55
        have egf54 := Fr.nil2 ogf54
        subst egf54
        refine e_iast C h t_39 o_39 hdq (by decide) (by decide) wf_62 fw_62 k39_dq_R (iv_in iz51 (by decide)) (iv_w ir53 (by decide)) dX11_mirror_62 (fun R58 f56 erR58 H locs h tf56 of56 hq hn_ k57 => ?_)
        have k59 := atp.tg k39_u0_10 hq hu0 (by decide)
        have k60 := atp.tg k39_u0_6 hq hu0 (by decide)
        have k61 := atp.tg k39_u0_8 hq hu0 (by decide)
        have k62 := atp.tg k39_u0_5 hq hu0 (by decide)
        have k63 := atp.tg k39_u0_9 hq hu0 (by decide)
        have k64 := atp.tg k39_bq_R hq hbq (by decide)
        have k65 := atp.tg k39_kq_R hq hkq (by decide)
        have k67 := atp.tg k39_fq_R hq hfq (by decide)
        refine i_inc hx hb dX11_mirror_63 hl (k := 2) rfl i5 rfl (lo := 1) (hi := 8) (by decide) (by decide) (lv' := fun v => [(2, .int v), (0, .ref u0), (1, .int u1)]) (fun _ => rfl) (fun z68 ls ez68 mz68 iz68 hl => ?_)
        refine lv_goto (tgt := 39) hx hb dX11_mirror_66 (by decide) ?_
        exact ih39 ls f56 H locs z68 R58 (show 8 - z68.toInt < _ by omega) (lv_cons hl 1 rfl (lv_cons hl 2 rfl (lv_cons hl 0 rfl (lv_nil hl)))) h tf56 of56 jv39_1 (iv_w iz68 (by decide)) k59 k60 k61 k62 k63 k64 k65 k57 k67 (show 0 ≤ u1.toInt ∧ u1.toInt < (rb 80).toInt by omega) (show (rb 80).toInt ≤ 7 by omega) (show ∀ k : Nat, R58 k = if k < 8 ∧ ((10 - (k : Int)) % 8) < z68.toInt then rb (10 * u1.toInt + (10 - (k : Int)) % 8).toNat else rd k from (by
            intro k; rw [erR58]; by_cases q_ : k = z51.toInt.toNat
            · rw [upd_at q_, x0r53]; (repeat' split) <;> first | rfl | (exfalso; omega) | (exact congrArg _ (by omega)) | (exact congr (congrArg HAdd.hAdd (congrArg rb (by omega))) (congrArg rb (by omega)))
            · rw [upd_off q_, hv39_2 k]; (repeat' split) <;> first | rfl | (exfalso; omega) | (exact congrArg _ (by omega))))
  refine lv_aload_n hx hb dX11_mirror_0 rfl (lv_at hl 0 rfl) ?_
  refine lv_iconst (v := 0) hx hb dX11_mirror_1 (by decide) ?_
  refine t_put C h t o hu0 (by decide) (by decide) (by decide) wf_60 fw_60 (k := 0) rfl flw_X11_75 (Or.inr ⟨_, _, _, rfl, rfl⟩) (v := .int 0) rfl rfl ⟨_, rfl, ⟨by decide, by decide⟩⟩ dX11_mirror_2 (fun f69 H locs h tf69 of69 hq ha_ hn_ hk_ => ?_)
  have k70 := hk_ 10 _ (by decide) k_u0_10
  have k71 := hk_ 6 _ (by decide) k_u0_6
  have k72 := hk_ 8 _ (by decide) k_u0_8
  have k73 := hk_ 5 _ (by decide) k_u0_5
  have k74 := hk_ 9 _ (by decide) k_u0_9
  have k75 := atp.tg hRbq hq hbq (by decide)
  have k76 := atp.tg hRkq hq hkq (by decide)
  have k77 := atp.tg hRdq hq hdq (by decide)
  have k78 := atp.tg hRfq hq hfq (by decide)
  have k79 := ha_
  refine lv_aload_n hx hb dX11_mirror_5 rfl (lv_at hl 0 rfl) ?_
  refine lv_iload_n hx hb dX11_mirror_6 rfl (lv_at hl 1 rfl) ?_
  obtain ⟨_, r80⟩ := t_rec tf69 hu0 (by decide) wf_60
  refine k_i (r_V C h hl (As := [.int u1]) (rest := []) (s_X11_isSetX l D G b0 τ f69 tf69 u0 hu0 u1 hu1 bq hbq k71 rb k75) r80 (Cn := RX11) (T := TX11) (N := 32) rfl rfl mk_X11_isSet w_1620 w_1622 w_51 w_1623 ⟨Nat.le_of_ble_eq_true rfl, Nat.le_of_ble_eq_true rfl⟩ rfl (Nat.le_of_ble_eq_true rfl) ⟨Nat.le_of_ble_eq_true rfl, Nat.le_of_ble_eq_true rfl⟩ rfl dX11_mirror_7) h (fun r81 f82 H locs p83 h => ?_)
  obtain ⟨ir81, tf82, ogf82, cnr81, czr81⟩ := p83
  have egf82 := Fr.nil2 ogf82
  subst egf82
  refine lv_if_ne (tgt := 19) hx hb dX11_mirror_10 (by decide) (fun c84 => ?_) (fun c84 => ?_)
  · have c85 : r81.toInt ≠ 0 := fun z_ => c84 (Int32.toInt_inj.mp z_)
    have i86 : iv r81 1 1 := iv_Nl c85 ir81 (by decide)
    obtain ⟨i87, i88⟩ := cnr81 c85
    refine lv_aload_n hx hb dX11_mirror_19 rfl (lv_at hl 0 rfl) ?_
    refine t_getfd C h tf69 hu0 (by decide) wf_60 (v := .ref bq) k71 fl_X11_17 dX11_mirror_20 ?_
    refine lv_bipush (v := 80) hx hb dX11_mirror_23 (by decide) ?_
    refine e_bk80 C h tf69 hbq (by decide) wf_63 k75 dX11_mirror_25 (fun z92 ez92 iz92 => ?_)
    have mz92 := congrArg Int32.toInt ez92
    refine lv_bipush (v := 8) hx hb dX11_mirror_26 (by decide) ?_
    refine lv_icmp_ne (tgt := 37) hx hb dX11_mirror_28 (by decide) (fun c93 => ?_) (fun c93 => ?_)
    · have c94 : z92.toInt ≠ 8 := fun z_ => c93 (Int32.toInt_inj.mp z_)
      have i95 : iv z92 0 7 := iv_Nh c94 iz92 (by decide)
      refine lv_iconst (v := 0) hx hb dX11_mirror_37 (by decide) ?_
      refine lv_istore_n (lv' := [(2, .int 0), (0, .ref u0), (1, .int u1)]) hx hb dX11_mirror_38 rfl hl (by decide) rfl (fun ls hl => ?_)
      exact L39 9 ls f69 H locs 0 rd (by decide) (lv_cons hl 1 rfl (lv_cons hl 2 rfl (lv_cons hl 0 rfl (lv_nil hl)))) h tf69 of69 i87 ⟨by decide, by decide⟩ k70 k71 k72 k73 k74 k75 k76 k77 k78 (show 0 ≤ u1.toInt ∧ u1.toInt < (rb 80).toInt by omega) (show (rb 80).toInt ≤ 7 by omega) (show ∀ k : Nat, rd k = if k < 8 ∧ ((10 - (k : Int)) % 8) < 0 then rb (10 * u1.toInt + (10 - (k : Int)) % 8).toNat else rd k from (by
          intro k; (repeat' split) <;> first | rfl | (exfalso; omega) | (exact congrArg _ (by omega))))
    · have c96 : z92.toInt = 8 := congrArg Int32.toInt c93
      have i97 : iv z92 8 8 := iv_Q c96 iz92 (iv_k (x := 8) (k := 8) rfl) (by decide)
      refine lv_aload_n hx hb dX11_mirror_31 rfl (lv_at hl 0 rfl) ?_
      refine lv_iconst (v := 2) hx hb dX11_mirror_32 (by decide) ?_
      obtain ⟨_, r98⟩ := t_rec tf69 hu0 (by decide) wf_60
      refine k_i (r_V C h hl (As := [.int 2]) (rest := []) (s_X11_refuseX l D G b0 τ f69 tf69 u0 hu0 2 (iv_w (iv_k (x := 2) (k := 2) rfl) (by decide)) fq hfq k74 rr k78) r98 (Cn := RX11) (T := TX11) (N := 32) rfl rfl mk_X11_refuse w_1604 w_1606 w_48 w_1607 ⟨Nat.le_of_ble_eq_true rfl, Nat.le_of_ble_eq_true rfl⟩ rfl (Nat.le_of_ble_eq_true rfl) ⟨Nat.le_of_ble_eq_true rfl, Nat.le_of_ble_eq_true rfl⟩ rfl dX11_mirror_33) h (fun r99 f100 H locs p101 h => ?_)
      obtain ⟨ir99, tf100, ogf100, ⟨rr1_f100, kRfqf100, pRfqf100⟩⟩ := p101
      have of100 : Fr [60, 62, 63, 65, 66, 60001, 60011] τ f f100 := Fr.tr of69 ogf100 (by decide) (by decide)
      have k102 := atp.fr k70 ogf100 hu0 (by decide)
      have k103 := atp.fr k71 ogf100 hu0 (by decide)
      have k104 := atp.fr k72 ogf100 hu0 (by decide)
      have k105 := atp.fr k73 ogf100 hu0 (by decide)
      have k106 := atp.fr k74 ogf100 hu0 (by decide)
      have k107 := atp.fr k75 ogf100 hbq (by decide)
      have k108 := atp.fr k76 ogf100 hkq (by decide)
      have k109 := atp.fr k77 ogf100 hdq (by decide)
      exact u_iret C h hr hQ (⟨(iv_w ir99 (by decide)), tf100, of100, ⟨fun z_ => absurd z_ (by omega), fun _ => (by omega)⟩, ⟨ac, k102, hac, ⟨fun z_ => absurd z_ (by omega), fun _ => rfl⟩⟩, ⟨rb, k107, (fun k hk => by rw [if_neg (by omega)])⟩, ⟨rk, k108, (fun k hk => by rw [if_neg (by omega)])⟩, ⟨rr1_f100, kRfqf100, (bump_eq (c := 2) pRfqf100 rfl (by decide) (by rw [if_neg (by omega), if_pos (by omega)]))⟩⟩) (Nat.le_of_ble_eq_true rfl) (Nat.le_of_ble_eq_true rfl) dX11_mirror_36
  · have c89 : r81.toInt = 0 := congrArg Int32.toInt c84
    have i90 : iv r81 0 0 := iv_Q c89 ir81 (iv_k (x := 0) (k := 0) rfl) (by decide)
    have i91 := czr81 c89
    refine lv_aload_n hx hb dX11_mirror_13 rfl (lv_at hl 0 rfl) ?_
    refine lv_iconst (v := 0) hx hb dX11_mirror_14 (by decide) ?_
    obtain ⟨_, r110⟩ := t_rec tf69 hu0 (by decide) wf_60
    refine k_i (r_V C h hl (As := [.int 0]) (rest := []) (s_X11_refuseX l D G b0 τ f69 tf69 u0 hu0 0 (iv_w (iv_k (x := 0) (k := 0) rfl) (by decide)) fq hfq k74 rr k78) r110 (Cn := RX11) (T := TX11) (N := 32) rfl rfl mk_X11_refuse w_1604 w_1606 w_48 w_1607 ⟨Nat.le_of_ble_eq_true rfl, Nat.le_of_ble_eq_true rfl⟩ rfl (Nat.le_of_ble_eq_true rfl) ⟨Nat.le_of_ble_eq_true rfl, Nat.le_of_ble_eq_true rfl⟩ rfl dX11_mirror_15) h (fun r111 f112 H locs p113 h => ?_)
    obtain ⟨ir111, tf112, ogf112, ⟨rr1_f112, kRfqf112, pRfqf112⟩⟩ := p113
    have of112 : Fr [60, 62, 63, 65, 66, 60001, 60011] τ f f112 := Fr.tr of69 ogf112 (by decide) (by decide)
    have k114 := atp.fr k70 ogf112 hu0 (by decide)
    have k115 := atp.fr k71 ogf112 hu0 (by decide)
    have k116 := atp.fr k72 ogf112 hu0 (by decide)
    have k117 := atp.fr k73 ogf112 hu0 (by decide)
    have k118 := atp.fr k74 ogf112 hu0 (by decide)
    have k119 := atp.fr k75 ogf112 hbq (by decide)
    have k120 := atp.fr k76 ogf112 hkq (by decide)
    have k121 := atp.fr k77 ogf112 hdq (by decide)
    exact u_iret C h hr hQ (⟨(iv_w ir111 (by decide)), tf112, of112, ⟨fun z_ => absurd z_ (by omega), fun _ => (by omega)⟩, ⟨ac, k114, hac, ⟨fun z_ => absurd z_ (by omega), fun _ => rfl⟩⟩, ⟨rb, k119, (fun k hk => by rw [if_neg (by omega)])⟩, ⟨rk, k120, (fun k hk => by rw [if_neg (by omega)])⟩, ⟨rr1_f112, kRfqf112, (bump_eq (c := 0) pRfqf112 rfl (by decide) (by rw [if_pos (by omega)]))⟩⟩) (Nat.le_of_ble_eq_true rfl) (Nat.le_of_ble_eq_true rfl) dX11_mirror_18
abbrev rm_s_X11_turnX : Room := { frames := 2, cells := 0, slots := 0, locals := 46 }
set_option maxRecDepth 100000 in
set_option maxHeartbeats 4000000 in
theorem s_X11_turnX (l : Launch) (D : va_G) (G : Nat → Nat) (b0 : Nat) (τ : Nat → Nat) (f : hM) (t : TI G 9 τ f) (u0 : Nat) (hu0 : τ u0 = 60) (u1 : Int32) (hu1 : iv u1 (-2147483648) 2147483647) (ac : Int32) (hac : iv ac 0 12) (k_u0_10 : atp f u0 (fd 10 (.int ac))) (bq : Nat) (hbq : τ bq = 63) (k_u0_6 : atp f u0 (fd 6 (.ref bq))) (kq : Nat) (hkq : τ kq = 65) (k_u0_8 : atp f u0 (fd 8 (.ref kq))) (dq : Nat) (hdq : τ dq = 62) (k_u0_5 : atp f u0 (fd 5 (.ref dq))) (fq : Nat) (hfq : τ fq = 66) (k_u0_9 : atp f u0 (fd 9 (.ref fq))) (rb : Nat → Int32) (hRbq : atp f bq (eqc (.inl (G 1, 81, .inl rb)))) (rk : Nat → Int32) (hRkq : atp f kq (eqc (.inl (G 1, 972, .inl rk)))) (rd : Nat → Int32) (hRdq : atp f dq (eqc (.inl (G 1, 10, .inl rd)))) (rr : Nat → Int32) (hRfq : atp f fq (eqc (.inl (G 1, 4, .inl rr)))) (hb9 : ∀ k : Nat, k < 80 → iv (rb k) 0 9) : mI l yX11_turn cX11_turn 3 (.int) rm_s_X11_turnX D G b0 f [.ref u0, .int u1] (fun r f1 => iv r (-1) 7 ∧ TI G 9 τ f1 ∧ Fr [60, 62, 63, 65, 66, 60001, 60011] τ f f1 ∧ (((((0 ≤ u1.toInt ∧ u1.toInt < (rb 80).toInt) ∧ (rb 80).toInt ≤ 7)) → r.toInt = (rb 80).toInt) ∧ (¬ (((0 ≤ u1.toInt ∧ u1.toInt < (rb 80).toInt) ∧ (rb 80).toInt ≤ 7)) → r.toInt = -1)) ∧ (∃ ac1 : Int32, atp f1 u0 (fd 10 (.int ac1)) ∧ iv ac1 0 12 ∧ ((((0 ≤ u1.toInt ∧ u1.toInt < (rb 80).toInt) ∧ (rb 80).toInt ≤ 7)) → ((ac.toInt = 12 → ac1.toInt = 12) ∧ (ac.toInt ≠ 12 → ac1.toInt = ac.toInt + 1))) ∧ (¬ (((0 ≤ u1.toInt ∧ u1.toInt < (rb 80).toInt) ∧ (rb 80).toInt ≤ 7)) → ac1.toInt = ac.toInt)) ∧ (∃ rb1 : Nat → Int32, atp f1 bq (eqc (.inl (G 1, 81, .inl rb1))) ∧ (∀ k : Nat, k < 81 → rb1 k = if ((0 ≤ u1.toInt ∧ u1.toInt < (rb 80).toInt) ∧ (rb 80).toInt ≤ 7) then cm rb (tr rb u1.toInt) k else rb k)) ∧ (∃ rk1 : Nat → Int32, atp f1 kq (eqc (.inl (G 1, 972, .inl rk1))) ∧ (∀ k : Nat, k < 972 → rk1 k = if ((0 ≤ u1.toInt ∧ u1.toInt < (rb 80).toInt) ∧ (rb 80).toInt ≤ 7) then kp rk rb ac.toInt k else rk k)) ∧ (∃ rr1 : Nat → Int32, atp f1 fq (eqc (.inl (G 1, 4, .inl rr1))) ∧ (∀ k : Nat, k < 4 → rr1 k = if (k : Int) = (if ¬ (0 ≤ u1.toInt ∧ u1.toInt < (rb 80).toInt) then 0 else (if ¬ ((rb 80).toInt ≤ 7) then 2 else -1)) then rr k + 1 else rr k))) := by
  refine met2 (own := RX11) (by decide) rfl (Nat.le_of_ble_eq_true rfl) ?_
  intro p e s m args below meth c ls Q hQ C hr hini hl h
  have hl : lv_has ls 3 [(0, .ref u0), (1, .int u1)] := hl
  obtain ⟨hx, hb, hml, hown, hts, hE0, hlk⟩ := id C
  have o := Fr.rf [60, 62, 63, 65, 66, 60001, 60011] τ f
  have L39 : ∀ (n39 : Nat) (ls : Array Slot) (f_39 : hM) (H : Heap) (locs : List Loc) (v39_2 : Int32) (g39_dq_R : Nat → Int32), 8 - v39_2.toInt < (n39 : Int) → lv_has ls 3 [(0, .ref u0), (1, .int u1), (2, .int v39_2)] → hw D b0 s.heap f_39 H locs → TI G 9 τ f_39 → Fr [60, 62, 63, 65, 66, 60001, 60011] τ f f_39 → iv u1 0 7 → iv v39_2 0 8 → atp f_39 u0 (fd 10 (.int ac)) → atp f_39 u0 (fd 6 (.ref bq)) → atp f_39 u0 (fd 8 (.ref kq)) → atp f_39 u0 (fd 5 (.ref dq)) → atp f_39 u0 (fd 9 (.ref fq)) → atp f_39 bq (eqc (.inl (G 1, 81, .inl rb))) → atp f_39 kq (eqc (.inl (G 1, 972, .inl rk))) → atp f_39 dq (eqc (.inl (G 1, 10, .inl g39_dq_R))) → atp f_39 fq (eqc (.inl (G 1, 4, .inl rr))) → 0 ≤ u1.toInt ∧ u1.toInt < (rb 80).toInt → (rb 80).toInt ≤ 7 → (∀ k : Nat, g39_dq_R k = if k < 8 ∧ (((k : Int) + 4) % 8) < v39_2.toInt then rb (10 * u1.toInt + ((k : Int) + 4) % 8).toNat else rd k) → W p l e rm_s_X11_turnX s m args below meth c H locs 0 0 Q (F0 m 39 ls []) := by
    intro n39
    induction n39 with
    | zero => intro ls f_39 H locs v39_2 g39_dq_R hm39 hl h t_39 o_39 jv39_1 iv39_2 k39_u0_10 k39_u0_6 k39_u0_8 k39_u0_5 k39_u0_9 k39_bq_R k39_kq_R k39_dq_R k39_fq_R hv39_0 hv39_1 hv39_2; exact absurd hm39 (by omega)
    | succ n39 ih39 =>
      intro ls f_39 H locs v39_2 g39_dq_R hm39 hl h t_39 o_39 jv39_1 iv39_2 k39_u0_10 k39_u0_6 k39_u0_8 k39_u0_5 k39_u0_9 k39_bq_R k39_kq_R k39_dq_R k39_fq_R hv39_0 hv39_1 hv39_2
      refine lv_iload_n hx hb dX11_turn_39 rfl (lv_at hl 2 rfl) ?_
      refine lv_bipush (v := 8) hx hb dX11_turn_40 (by decide) ?_
      refine lv_icmp_ge (tgt := 68) hx hb dX11_turn_42 (by decide) (fun c1 => ?_) (fun c1 => ?_)
      · have c2 : 8 ≤ v39_2.toInt := Int32.le_iff_toInt_le.mp c1
        have i3 : iv v39_2 8 8 := iv_Er c2 (iv_k (x := 8) (k := 8) rfl) iv39_2 (by decide)
        refine lv_aload_n hx hb dX11_turn_68 rfl (lv_at hl 0 rfl) ?_
        refine t_getfd C h t_39 hu0 (by decide) wf_60 (v := .ref dq) k39_u0_5 fl_X11_13 dX11_turn_69 ?_
        refine lv_bipush (v := 8) hx hb dX11_turn_72 (by decide) ?_
        refine lv_aload_n hx hb dX11_turn_74 rfl (lv_at hl 0 rfl) ?_
        refine lv_iload_n hx hb dX11_turn_75 rfl (lv_at hl 1 rfl) ?_
        refine lv_bipush (v := 8) hx hb dX11_turn_76 (by decide) ?_
        obtain ⟨_, r6⟩ := t_rec t_39 hu0 (by decide) wf_60
        refine k_i (r_V C h hl (As := [.int u1, .int 8]) (rest := [.int 8, .ref dq]) (s_X11_weightOfX l D G b0 τ f_39 t_39 u0 hu0 u1 jv39_1 8 (iv_w (iv_k (x := 8) (k := 8) rfl) (by decide)) bq hbq k39_u0_6 rb k39_bq_R) r6 (Cn := RX11) (T := TX11) (N := 32) rfl rfl mk_X11_weightOf w_1631 w_1633 w_52 w_1634 ⟨Nat.le_of_ble_eq_true rfl, Nat.le_of_ble_eq_true rfl⟩ rfl (Nat.le_of_ble_eq_true rfl) ⟨Nat.le_of_ble_eq_true rfl, Nat.le_of_ble_eq_true rfl⟩ rfl dX11_turn_78) h (fun r7 f8 H locs p9 h => ?_)
        have n10 : (8 : Int32).toInt = 8 := rfl
        obtain ⟨ir7, tf8, ogf8, x0r7, x1r7⟩ := p9
        have x0r7 : r7 = (rb (10 * u1.toInt + 8).toNat) := x0r7
        have x1r7 : r7.toInt = (rb (10 * u1.toInt + 8).toNat).toInt := x1r7
        have egf8 := Fr.nil2 ogf8
        subst egf8
        refine e_iast C h t_39 o_39 hdq (by decide) (by decide) wf_62 fw_62 k39_dq_R (by unfold vp_in; decide) (iv_w ir7 (by decide)) dX11_turn_81 (fun R13 f11 erR13 H locs h tf11 of11 hq hn_ k12 => ?_)
        have erR13 : R13 = upd g39_dq_R 8 r7 := erR13
        have k14 := atp.tg k39_u0_10 hq hu0 (by decide)
        have k15 := atp.tg k39_u0_6 hq hu0 (by decide)
        have k16 := atp.tg k39_u0_8 hq hu0 (by decide)
        have k17 := atp.tg k39_u0_5 hq hu0 (by decide)
        have k18 := atp.tg k39_u0_9 hq hu0 (by decide)
        have k19 := atp.tg k39_bq_R hq hbq (by decide)
        have k20 := atp.tg k39_kq_R hq hkq (by decide)
        have k22 := atp.tg k39_fq_R hq hfq (by decide)
        refine lv_aload_n hx hb dX11_turn_82 rfl (lv_at hl 0 rfl) ?_
        refine t_getfd C h tf11 hu0 (by decide) wf_60 (v := .ref dq) k17 fl_X11_13 dX11_turn_83 ?_
        refine lv_bipush (v := 9) hx hb dX11_turn_86 (by decide) ?_
        refine lv_aload_n hx hb dX11_turn_88 rfl (lv_at hl 0 rfl) ?_
        refine lv_iload_n hx hb dX11_turn_89 rfl (lv_at hl 1 rfl) ?_
        refine lv_bipush (v := 9) hx hb dX11_turn_90 (by decide) ?_
        obtain ⟨_, r23⟩ := t_rec tf11 hu0 (by decide) wf_60
        refine k_i (r_V C h hl (As := [.int u1, .int 9]) (rest := [.int 9, .ref dq]) (s_X11_weightOfX l D G b0 τ f11 tf11 u0 hu0 u1 jv39_1 9 (iv_w (iv_k (x := 9) (k := 9) rfl) (by decide)) bq hbq k15 rb k19) r23 (Cn := RX11) (T := TX11) (N := 32) rfl rfl mk_X11_weightOf w_1631 w_1633 w_52 w_1634 ⟨Nat.le_of_ble_eq_true rfl, Nat.le_of_ble_eq_true rfl⟩ rfl (Nat.le_of_ble_eq_true rfl) ⟨Nat.le_of_ble_eq_true rfl, Nat.le_of_ble_eq_true rfl⟩ rfl dX11_turn_92) h (fun r24 f25 H locs p26 h => ?_)
        have n27 : (9 : Int32).toInt = 9 := rfl
        obtain ⟨ir24, tf25, ogf25, x0r24, x1r24⟩ := p26
        have x0r24 : r24 = (rb (10 * u1.toInt + 9).toNat) := x0r24
        have x1r24 : r24.toInt = (rb (10 * u1.toInt + 9).toNat).toInt := x1r24
        have egf25 := Fr.nil2 ogf25
        subst egf25
        refine e_iast C h tf11 of11 hdq (by decide) (by decide) wf_62 fw_62 k12 (by unfold vp_in; decide) (iv_w ir24 (by decide)) dX11_turn_95 (fun R30 f28 erR30 H locs h tf28 of28 hq hn_ k29 => ?_)
        have erR30 : R30 = upd R13 9 r24 := erR30
        have k31 := atp.tg k14 hq hu0 (by decide)
        have k32 := atp.tg k15 hq hu0 (by decide)
        have k33 := atp.tg k16 hq hu0 (by decide)
        have k34 := atp.tg k17 hq hu0 (by decide)
        have k35 := atp.tg k18 hq hu0 (by decide)
        have k36 := atp.tg k19 hq hbq (by decide)
        have k37 := atp.tg k20 hq hkq (by decide)
        have k38 := atp.tg k22 hq hfq (by decide)
        refine lv_aload_n hx hb dX11_turn_96 rfl (lv_at hl 0 rfl) ?_
        have hfd : ∀ k : Nat, k < 10 → R30 k = tr rb u1.toInt k := fun k hk => by
          rw [erR30, erR13]; unfold tr
          by_cases q9 : k = 9
          · rw [upd_at q9, x0r24]; (repeat' split) <;> first | rfl | (exfalso; omega) | (exact congrArg _ (by omega))
          · rw [upd_off q9]; by_cases q8 : k = 8
            · rw [upd_at q8, x0r7]; (repeat' split) <;> first | rfl | (exfalso; omega) | (exact congrArg _ (by omega))
            · rw [upd_off q8, hv39_2 k]; (repeat' split) <;> first | rfl | (exfalso; omega) | (exact congrArg _ (by omega))
        obtain ⟨_, r40⟩ := t_rec tf28 hu0 (by decide) wf_60
        refine k_i (r_V C h hl (As := []) (rest := []) (s_X11_comesX l D G b0 τ f28 tf28 u0 hu0 ac hac k31 bq hbq k32 kq hkq k33 dq hdq k34 rb k36 rk k37 R30 k29 (fun k hk => by rw [hfd k hk]; unfold tr; (repeat' split) <;> exact hb9 _ (by omega)) (by omega)) r40 (Cn := RX11) (T := TX11) (N := 32) rfl rfl mk_X11_comes w_1608 w_1610 w_49 w_1611 ⟨Nat.le_of_ble_eq_true rfl, Nat.le_of_ble_eq_true rfl⟩ rfl (Nat.le_of_ble_eq_true rfl) ⟨Nat.le_of_ble_eq_true rfl, Nat.le_of_ble_eq_true rfl⟩ rfl dX11_turn_97) h (fun r41 f42 H locs p43 h => ?_)
        obtain ⟨ir41, tf42, ogf42, x0r41, ⟨ac1_f42, kpu0_10f42, ipu0_10f42, rpu0_10f42⟩, ⟨rb1_f42, kRbqf42, pRbqf42⟩, ⟨rk1_f42, kRkqf42, pRkqf42⟩⟩ := p43
        have of42 : Fr [60, 62, 63, 65, 66, 60001, 60011] τ f f42 := Fr.tr of28 ogf42 (by decide) (by decide)
        have k44 := atp.fk k32 ogf42 hu0 (by decide) (by decide)
        have k45 := atp.fk k33 ogf42 hu0 (by decide) (by decide)
        have k46 := atp.fk k34 ogf42 hu0 (by decide) (by decide)
        have k47 := atp.fk k35 ogf42 hu0 (by decide) (by decide)
        have k48 := atp.fr k38 ogf42 hfq (by decide)
        have k49 := atp.fr k29 ogf42 hdq (by decide)
        exact u_iret C h hr hQ (⟨ir41, tf42, of42, ⟨fun _ => (by omega), fun z_ => (z_ (by omega)).elim⟩, ⟨ac1_f42, kpu0_10f42, (iv_w ipu0_10f42 (by decide)), ⟨fun _ => (by omega), fun z_ => (z_ (by omega)).elim⟩⟩, ⟨rb1_f42, kRbqf42, (fun k hk => by
            rw [if_pos (by omega)]
            rw [pRbqf42 k hk]; exact cme_eq hfd (by omega) k hk)⟩, ⟨rk1_f42, kRkqf42, (fun k hk => by rw [if_pos (by omega)]; exact pRkqf42 k hk)⟩, ⟨rr, k48, (bump_no (by rw [if_neg (by omega), if_neg (by omega)]))⟩⟩) (Nat.le_of_ble_eq_true rfl) (Nat.le_of_ble_eq_true rfl) dX11_turn_100
      · have c4 : v39_2.toInt < 8 := Int32.lt_iff_toInt_lt.mp (iv_nle c1)
        have i5 : iv v39_2 0 7 := iv_Ll c4 iv39_2 (iv_k (x := 8) (k := 8) rfl) (by decide)
        refine lv_aload_n hx hb dX11_turn_45 rfl (lv_at hl 0 rfl) ?_
        refine t_getfd C h t_39 hu0 (by decide) wf_60 (v := .ref dq) k39_u0_5 fl_X11_13 dX11_turn_46 ?_
        refine lv_iload_n hx hb dX11_turn_49 rfl (lv_at hl 2 rfl) ?_
        refine lv_iconst (v := 4) hx hb dX11_turn_50 (by decide) ?_
        refine i_addk hx hb dX11_turn_51 i5 (k := 4) rfl (lo := 4) (hi := 11) (by decide) (fun z50 ez50 mz50 iz50 => ?_)
        refine lv_bipush (v := 8) hx hb dX11_turn_52 (by decide) ?_
        refine lv_irem hx hb dX11_turn_54 (by decide) (i_topm (P := fun q_ => q_ = Int32.toInt z50 % 8) (iv_remx (k := 8) (iv_w iz50 (by decide) : iv _ 0 11) rfl (by decide)) (fun z51 ez51 mz51 iz51 => ?_))
        refine lv_aload_n hx hb dX11_turn_55 rfl (lv_at hl 0 rfl) ?_
        refine lv_iload_n hx hb dX11_turn_56 rfl (lv_at hl 1 rfl) ?_
        refine lv_iload_n hx hb dX11_turn_57 rfl (lv_at hl 2 rfl) ?_
        obtain ⟨_, r52⟩ := t_rec t_39 hu0 (by decide) wf_60
        refine k_i (r_V C h hl (As := [.int u1, .int v39_2]) (rest := [.int z51, .ref dq]) (s_X11_weightOfX l D G b0 τ f_39 t_39 u0 hu0 u1 jv39_1 v39_2 (iv_w i5 (by decide)) bq hbq k39_u0_6 rb k39_bq_R) r52 (Cn := RX11) (T := TX11) (N := 32) rfl rfl mk_X11_weightOf w_1631 w_1633 w_52 w_1634 ⟨Nat.le_of_ble_eq_true rfl, Nat.le_of_ble_eq_true rfl⟩ rfl (Nat.le_of_ble_eq_true rfl) ⟨Nat.le_of_ble_eq_true rfl, Nat.le_of_ble_eq_true rfl⟩ rfl dX11_turn_58) h (fun r53 f54 H locs p55 h => ?_)
        obtain ⟨ir53, tf54, ogf54, x0r53, x1r53⟩ := p55
        have egf54 := Fr.nil2 ogf54
        subst egf54
        refine e_iast C h t_39 o_39 hdq (by decide) (by decide) wf_62 fw_62 k39_dq_R (iv_in iz51 (by decide)) (iv_w ir53 (by decide)) dX11_turn_61 (fun R58 f56 erR58 H locs h tf56 of56 hq hn_ k57 => ?_)
        have k59 := atp.tg k39_u0_10 hq hu0 (by decide)
        have k60 := atp.tg k39_u0_6 hq hu0 (by decide)
        have k61 := atp.tg k39_u0_8 hq hu0 (by decide)
        have k62 := atp.tg k39_u0_5 hq hu0 (by decide)
        have k63 := atp.tg k39_u0_9 hq hu0 (by decide)
        have k64 := atp.tg k39_bq_R hq hbq (by decide)
        have k65 := atp.tg k39_kq_R hq hkq (by decide)
        have k67 := atp.tg k39_fq_R hq hfq (by decide)
        refine i_inc hx hb dX11_turn_62 hl (k := 2) rfl i5 rfl (lo := 1) (hi := 8) (by decide) (by decide) (lv' := fun v => [(2, .int v), (0, .ref u0), (1, .int u1)]) (fun _ => rfl) (fun z68 ls ez68 mz68 iz68 hl => ?_)
        refine lv_goto (tgt := 39) hx hb dX11_turn_65 (by decide) ?_
        exact ih39 ls f56 H locs z68 R58 (show 8 - z68.toInt < _ by omega) (lv_cons hl 1 rfl (lv_cons hl 2 rfl (lv_cons hl 0 rfl (lv_nil hl)))) h tf56 of56 jv39_1 (iv_w iz68 (by decide)) k59 k60 k61 k62 k63 k64 k65 k57 k67 (show 0 ≤ u1.toInt ∧ u1.toInt < (rb 80).toInt by omega) (show (rb 80).toInt ≤ 7 by omega) (show ∀ k : Nat, R58 k = if k < 8 ∧ (((k : Int) + 4) % 8) < z68.toInt then rb (10 * u1.toInt + ((k : Int) + 4) % 8).toNat else rd k from (by
            intro k; rw [erR58]; by_cases q_ : k = z51.toInt.toNat
            · rw [upd_at q_, x0r53]; (repeat' split) <;> first | rfl | (exfalso; omega) | (exact congrArg _ (by omega)) | (exact congr (congrArg HAdd.hAdd (congrArg rb (by omega))) (congrArg rb (by omega)))
            · rw [upd_off q_, hv39_2 k]; (repeat' split) <;> first | rfl | (exfalso; omega) | (exact congrArg _ (by omega))))
  refine lv_aload_n hx hb dX11_turn_0 rfl (lv_at hl 0 rfl) ?_
  refine lv_iconst (v := 0) hx hb dX11_turn_1 (by decide) ?_
  refine t_put C h t o hu0 (by decide) (by decide) (by decide) wf_60 fw_60 (k := 0) rfl flw_X11_75 (Or.inr ⟨_, _, _, rfl, rfl⟩) (v := .int 0) rfl rfl ⟨_, rfl, ⟨by decide, by decide⟩⟩ dX11_turn_2 (fun f69 H locs h tf69 of69 hq ha_ hn_ hk_ => ?_)
  have k70 := hk_ 10 _ (by decide) k_u0_10
  have k71 := hk_ 6 _ (by decide) k_u0_6
  have k72 := hk_ 8 _ (by decide) k_u0_8
  have k73 := hk_ 5 _ (by decide) k_u0_5
  have k74 := hk_ 9 _ (by decide) k_u0_9
  have k75 := atp.tg hRbq hq hbq (by decide)
  have k76 := atp.tg hRkq hq hkq (by decide)
  have k77 := atp.tg hRdq hq hdq (by decide)
  have k78 := atp.tg hRfq hq hfq (by decide)
  have k79 := ha_
  refine lv_aload_n hx hb dX11_turn_5 rfl (lv_at hl 0 rfl) ?_
  refine lv_iload_n hx hb dX11_turn_6 rfl (lv_at hl 1 rfl) ?_
  obtain ⟨_, r80⟩ := t_rec tf69 hu0 (by decide) wf_60
  refine k_i (r_V C h hl (As := [.int u1]) (rest := []) (s_X11_isSetX l D G b0 τ f69 tf69 u0 hu0 u1 hu1 bq hbq k71 rb k75) r80 (Cn := RX11) (T := TX11) (N := 32) rfl rfl mk_X11_isSet w_1620 w_1622 w_51 w_1623 ⟨Nat.le_of_ble_eq_true rfl, Nat.le_of_ble_eq_true rfl⟩ rfl (Nat.le_of_ble_eq_true rfl) ⟨Nat.le_of_ble_eq_true rfl, Nat.le_of_ble_eq_true rfl⟩ rfl dX11_turn_7) h (fun r81 f82 H locs p83 h => ?_)
  obtain ⟨ir81, tf82, ogf82, cnr81, czr81⟩ := p83
  have egf82 := Fr.nil2 ogf82
  subst egf82
  refine lv_if_ne (tgt := 19) hx hb dX11_turn_10 (by decide) (fun c84 => ?_) (fun c84 => ?_)
  · have c85 : r81.toInt ≠ 0 := fun z_ => c84 (Int32.toInt_inj.mp z_)
    have i86 : iv r81 1 1 := iv_Nl c85 ir81 (by decide)
    obtain ⟨i87, i88⟩ := cnr81 c85
    refine lv_aload_n hx hb dX11_turn_19 rfl (lv_at hl 0 rfl) ?_
    refine t_getfd C h tf69 hu0 (by decide) wf_60 (v := .ref bq) k71 fl_X11_17 dX11_turn_20 ?_
    refine lv_bipush (v := 80) hx hb dX11_turn_23 (by decide) ?_
    refine e_bk80 C h tf69 hbq (by decide) wf_63 k75 dX11_turn_25 (fun z92 ez92 iz92 => ?_)
    have mz92 := congrArg Int32.toInt ez92
    refine lv_bipush (v := 8) hx hb dX11_turn_26 (by decide) ?_
    refine lv_icmp_ne (tgt := 37) hx hb dX11_turn_28 (by decide) (fun c93 => ?_) (fun c93 => ?_)
    · have c94 : z92.toInt ≠ 8 := fun z_ => c93 (Int32.toInt_inj.mp z_)
      have i95 : iv z92 0 7 := iv_Nh c94 iz92 (by decide)
      refine lv_iconst (v := 0) hx hb dX11_turn_37 (by decide) ?_
      refine lv_istore_n (lv' := [(2, .int 0), (0, .ref u0), (1, .int u1)]) hx hb dX11_turn_38 rfl hl (by decide) rfl (fun ls hl => ?_)
      exact L39 9 ls f69 H locs 0 rd (by decide) (lv_cons hl 1 rfl (lv_cons hl 2 rfl (lv_cons hl 0 rfl (lv_nil hl)))) h tf69 of69 i87 ⟨by decide, by decide⟩ k70 k71 k72 k73 k74 k75 k76 k77 k78 (show 0 ≤ u1.toInt ∧ u1.toInt < (rb 80).toInt by omega) (show (rb 80).toInt ≤ 7 by omega) (show ∀ k : Nat, rd k = if k < 8 ∧ (((k : Int) + 4) % 8) < 0 then rb (10 * u1.toInt + ((k : Int) + 4) % 8).toNat else rd k from (by
          intro k; (repeat' split) <;> first | rfl | (exfalso; omega) | (exact congrArg _ (by omega))))
    · have c96 : z92.toInt = 8 := congrArg Int32.toInt c93
      have i97 : iv z92 8 8 := iv_Q c96 iz92 (iv_k (x := 8) (k := 8) rfl) (by decide)
      refine lv_aload_n hx hb dX11_turn_31 rfl (lv_at hl 0 rfl) ?_
      refine lv_iconst (v := 2) hx hb dX11_turn_32 (by decide) ?_
      obtain ⟨_, r98⟩ := t_rec tf69 hu0 (by decide) wf_60
      refine k_i (r_V C h hl (As := [.int 2]) (rest := []) (s_X11_refuseX l D G b0 τ f69 tf69 u0 hu0 2 (iv_w (iv_k (x := 2) (k := 2) rfl) (by decide)) fq hfq k74 rr k78) r98 (Cn := RX11) (T := TX11) (N := 32) rfl rfl mk_X11_refuse w_1604 w_1606 w_48 w_1607 ⟨Nat.le_of_ble_eq_true rfl, Nat.le_of_ble_eq_true rfl⟩ rfl (Nat.le_of_ble_eq_true rfl) ⟨Nat.le_of_ble_eq_true rfl, Nat.le_of_ble_eq_true rfl⟩ rfl dX11_turn_33) h (fun r99 f100 H locs p101 h => ?_)
      obtain ⟨ir99, tf100, ogf100, ⟨rr1_f100, kRfqf100, pRfqf100⟩⟩ := p101
      have of100 : Fr [60, 62, 63, 65, 66, 60001, 60011] τ f f100 := Fr.tr of69 ogf100 (by decide) (by decide)
      have k102 := atp.fr k70 ogf100 hu0 (by decide)
      have k103 := atp.fr k71 ogf100 hu0 (by decide)
      have k104 := atp.fr k72 ogf100 hu0 (by decide)
      have k105 := atp.fr k73 ogf100 hu0 (by decide)
      have k106 := atp.fr k74 ogf100 hu0 (by decide)
      have k107 := atp.fr k75 ogf100 hbq (by decide)
      have k108 := atp.fr k76 ogf100 hkq (by decide)
      have k109 := atp.fr k77 ogf100 hdq (by decide)
      exact u_iret C h hr hQ (⟨(iv_w ir99 (by decide)), tf100, of100, ⟨fun z_ => absurd z_ (by omega), fun _ => (by omega)⟩, ⟨ac, k102, hac, ⟨fun z_ => absurd z_ (by omega), fun _ => rfl⟩⟩, ⟨rb, k107, (fun k hk => by rw [if_neg (by omega)])⟩, ⟨rk, k108, (fun k hk => by rw [if_neg (by omega)])⟩, ⟨rr1_f100, kRfqf100, (bump_eq (c := 2) pRfqf100 rfl (by decide) (by rw [if_neg (by omega), if_pos (by omega)]))⟩⟩) (Nat.le_of_ble_eq_true rfl) (Nat.le_of_ble_eq_true rfl) dX11_turn_36
  · have c89 : r81.toInt = 0 := congrArg Int32.toInt c84
    have i90 : iv r81 0 0 := iv_Q c89 ir81 (iv_k (x := 0) (k := 0) rfl) (by decide)
    have i91 := czr81 c89
    refine lv_aload_n hx hb dX11_turn_13 rfl (lv_at hl 0 rfl) ?_
    refine lv_iconst (v := 0) hx hb dX11_turn_14 (by decide) ?_
    obtain ⟨_, r110⟩ := t_rec tf69 hu0 (by decide) wf_60
    refine k_i (r_V C h hl (As := [.int 0]) (rest := []) (s_X11_refuseX l D G b0 τ f69 tf69 u0 hu0 0 (iv_w (iv_k (x := 0) (k := 0) rfl) (by decide)) fq hfq k74 rr k78) r110 (Cn := RX11) (T := TX11) (N := 32) rfl rfl mk_X11_refuse w_1604 w_1606 w_48 w_1607 ⟨Nat.le_of_ble_eq_true rfl, Nat.le_of_ble_eq_true rfl⟩ rfl (Nat.le_of_ble_eq_true rfl) ⟨Nat.le_of_ble_eq_true rfl, Nat.le_of_ble_eq_true rfl⟩ rfl dX11_turn_15) h (fun r111 f112 H locs p113 h => ?_)
    obtain ⟨ir111, tf112, ogf112, ⟨rr1_f112, kRfqf112, pRfqf112⟩⟩ := p113
    have of112 : Fr [60, 62, 63, 65, 66, 60001, 60011] τ f f112 := Fr.tr of69 ogf112 (by decide) (by decide)
    have k114 := atp.fr k70 ogf112 hu0 (by decide)
    have k115 := atp.fr k71 ogf112 hu0 (by decide)
    have k116 := atp.fr k72 ogf112 hu0 (by decide)
    have k117 := atp.fr k73 ogf112 hu0 (by decide)
    have k118 := atp.fr k74 ogf112 hu0 (by decide)
    have k119 := atp.fr k75 ogf112 hbq (by decide)
    have k120 := atp.fr k76 ogf112 hkq (by decide)
    have k121 := atp.fr k77 ogf112 hdq (by decide)
    exact u_iret C h hr hQ (⟨(iv_w ir111 (by decide)), tf112, of112, ⟨fun z_ => absurd z_ (by omega), fun _ => (by omega)⟩, ⟨ac, k114, hac, ⟨fun z_ => absurd z_ (by omega), fun _ => rfl⟩⟩, ⟨rb, k119, (fun k hk => by rw [if_neg (by omega)])⟩, ⟨rk, k120, (fun k hk => by rw [if_neg (by omega)])⟩, ⟨rr1_f112, kRfqf112, (bump_eq (c := 0) pRfqf112 rfl (by decide) (by rw [if_pos (by omega)]))⟩⟩) (Nat.le_of_ble_eq_true rfl) (Nat.le_of_ble_eq_true rfl) dX11_turn_18
abbrev rm_s_X11_joinX : Room := { frames := 2, cells := 0, slots := 0, locals := 46 }
set_option maxRecDepth 100000 in
set_option maxHeartbeats 4000000 in
theorem s_X11_joinX (l : Launch) (D : va_G) (G : Nat → Nat) (b0 : Nat) (τ : Nat → Nat) (f : hM) (t : TI G 9 τ f) (u0 : Nat) (hu0 : τ u0 = 60) (u1 : Int32) (hu1 : iv u1 (-2147483648) 2147483647) (u2 : Int32) (hu2 : iv u2 (-2147483648) 2147483647) (ac : Int32) (hac : iv ac 0 12) (k_u0_10 : atp f u0 (fd 10 (.int ac))) (bq : Nat) (hbq : τ bq = 63) (k_u0_6 : atp f u0 (fd 6 (.ref bq))) (kq : Nat) (hkq : τ kq = 65) (k_u0_8 : atp f u0 (fd 8 (.ref kq))) (dq : Nat) (hdq : τ dq = 62) (k_u0_5 : atp f u0 (fd 5 (.ref dq))) (fq : Nat) (hfq : τ fq = 66) (k_u0_9 : atp f u0 (fd 9 (.ref fq))) (rb : Nat → Int32) (hRbq : atp f bq (eqc (.inl (G 1, 81, .inl rb)))) (rk : Nat → Int32) (hRkq : atp f kq (eqc (.inl (G 1, 972, .inl rk)))) (rd : Nat → Int32) (hRdq : atp f dq (eqc (.inl (G 1, 10, .inl rd)))) (rr : Nat → Int32) (hRfq : atp f fq (eqc (.inl (G 1, 4, .inl rr)))) (hb9 : ∀ k : Nat, k < 80 → iv (rb k) 0 9) : mI l yX11_join cX11_join 4 (.int) rm_s_X11_joinX D G b0 f [.ref u0, .int u1, .int u2] (fun r f1 => iv r (-1) 7 ∧ TI G 9 τ f1 ∧ Fr [60, 62, 63, 65, 66, 60001, 60011] τ f f1 ∧ (((((0 ≤ u1.toInt ∧ u1.toInt < (rb 80).toInt) ∧ (0 ≤ u2.toInt ∧ u2.toInt < (rb 80).toInt) ∧ (∀ s : Nat, s < 8 → (rb (10 * u1.toInt + s).toNat).toInt + (rb (10 * u2.toInt + s).toNat).toInt ≤ 9) ∧ (rb 80).toInt ≤ 7)) → r.toInt = (rb 80).toInt) ∧ (¬ (((0 ≤ u1.toInt ∧ u1.toInt < (rb 80).toInt) ∧ (0 ≤ u2.toInt ∧ u2.toInt < (rb 80).toInt) ∧ (∀ s : Nat, s < 8 → (rb (10 * u1.toInt + s).toNat).toInt + (rb (10 * u2.toInt + s).toNat).toInt ≤ 9) ∧ (rb 80).toInt ≤ 7)) → r.toInt = -1)) ∧ (∃ ac1 : Int32, atp f1 u0 (fd 10 (.int ac1)) ∧ iv ac1 0 12 ∧ ((((0 ≤ u1.toInt ∧ u1.toInt < (rb 80).toInt) ∧ (0 ≤ u2.toInt ∧ u2.toInt < (rb 80).toInt) ∧ (∀ s : Nat, s < 8 → (rb (10 * u1.toInt + s).toNat).toInt + (rb (10 * u2.toInt + s).toNat).toInt ≤ 9) ∧ (rb 80).toInt ≤ 7)) → ((ac.toInt = 12 → ac1.toInt = 12) ∧ (ac.toInt ≠ 12 → ac1.toInt = ac.toInt + 1))) ∧ (¬ (((0 ≤ u1.toInt ∧ u1.toInt < (rb 80).toInt) ∧ (0 ≤ u2.toInt ∧ u2.toInt < (rb 80).toInt) ∧ (∀ s : Nat, s < 8 → (rb (10 * u1.toInt + s).toNat).toInt + (rb (10 * u2.toInt + s).toNat).toInt ≤ 9) ∧ (rb 80).toInt ≤ 7)) → ac1.toInt = ac.toInt)) ∧ (∃ rb1 : Nat → Int32, atp f1 bq (eqc (.inl (G 1, 81, .inl rb1))) ∧ (∀ k : Nat, k < 81 → rb1 k = if ((0 ≤ u1.toInt ∧ u1.toInt < (rb 80).toInt) ∧ (0 ≤ u2.toInt ∧ u2.toInt < (rb 80).toInt) ∧ (∀ s : Nat, s < 8 → (rb (10 * u1.toInt + s).toNat).toInt + (rb (10 * u2.toInt + s).toNat).toInt ≤ 9) ∧ (rb 80).toInt ≤ 7) then cm rb (jo rb u1.toInt u2.toInt) k else rb k)) ∧ (∃ rk1 : Nat → Int32, atp f1 kq (eqc (.inl (G 1, 972, .inl rk1))) ∧ (∀ k : Nat, k < 972 → rk1 k = if ((0 ≤ u1.toInt ∧ u1.toInt < (rb 80).toInt) ∧ (0 ≤ u2.toInt ∧ u2.toInt < (rb 80).toInt) ∧ (∀ s : Nat, s < 8 → (rb (10 * u1.toInt + s).toNat).toInt + (rb (10 * u2.toInt + s).toNat).toInt ≤ 9) ∧ (rb 80).toInt ≤ 7) then kp rk rb ac.toInt k else rk k)) ∧ (∃ rr1 : Nat → Int32, atp f1 fq (eqc (.inl (G 1, 4, .inl rr1))) ∧ (∀ k : Nat, k < 4 → rr1 k = if (k : Int) = (if ¬ ((0 ≤ u1.toInt ∧ u1.toInt < (rb 80).toInt) ∧ (0 ≤ u2.toInt ∧ u2.toInt < (rb 80).toInt)) then 0 else (if ¬ (∀ s : Nat, s < 8 → (rb (10 * u1.toInt + s).toNat).toInt + (rb (10 * u2.toInt + s).toNat).toInt ≤ 9) then 1 else (if ¬ ((rb 80).toInt ≤ 7) then 2 else -1))) then rr k + 1 else rr k))) := by
  refine met2 (own := RX11) (by decide) rfl (Nat.le_of_ble_eq_true rfl) ?_
  intro p e s m args below meth c ls Q hQ C hr hini hl h
  have hl : lv_has ls 4 [(0, .ref u0), (1, .int u1), (2, .int u2)] := hl
  obtain ⟨hx, hb, hml, hown, hts, hE0, hlk⟩ := id C
  have o := Fr.rf [60, 62, 63, 65, 66, 60001, 60011] τ f
  have L29 : ∀ (n29 : Nat) (ls : Array Slot) (f_29 : hM) (H : Heap) (locs : List Loc) (v29_3 : Int32) (g29_dq_R : Nat → Int32), 8 - v29_3.toInt < (n29 : Int) → lv_has ls 4 [(0, .ref u0), (1, .int u1), (2, .int u2), (3, .int v29_3)] → hw D b0 s.heap f_29 H locs → TI G 9 τ f_29 → Fr [60, 62, 63, 65, 66, 60001, 60011] τ f f_29 → iv u1 0 7 → iv u2 0 7 → iv v29_3 0 8 → atp f_29 u0 (fd 10 (.int ac)) → atp f_29 u0 (fd 6 (.ref bq)) → atp f_29 u0 (fd 8 (.ref kq)) → atp f_29 u0 (fd 5 (.ref dq)) → atp f_29 u0 (fd 9 (.ref fq)) → atp f_29 bq (eqc (.inl (G 1, 81, .inl rb))) → atp f_29 kq (eqc (.inl (G 1, 972, .inl rk))) → atp f_29 dq (eqc (.inl (G 1, 10, .inl g29_dq_R))) → atp f_29 fq (eqc (.inl (G 1, 4, .inl rr))) → (0 ≤ u1.toInt ∧ u1.toInt < (rb 80).toInt) ∧ (0 ≤ u2.toInt ∧ u2.toInt < (rb 80).toInt) → (∀ s : Nat, (s : Int) < v29_3.toInt → (rb (10 * u1.toInt + s).toNat).toInt + (rb (10 * u2.toInt + s).toNat).toInt ≤ 9) → (∀ k : Nat, g29_dq_R k = if (k : Int) < v29_3.toInt then rb (10 * u1.toInt + k).toNat + rb (10 * u2.toInt + k).toNat else rd k) → W p l e rm_s_X11_joinX s m args below meth c H locs 0 0 Q (F0 m 29 ls []) := by
    intro n29
    induction n29 with
    | zero => intro ls f_29 H locs v29_3 g29_dq_R hm29 hl h t_29 o_29 jv29_1 jv29_2 iv29_3 k29_u0_10 k29_u0_6 k29_u0_8 k29_u0_5 k29_u0_9 k29_bq_R k29_kq_R k29_dq_R k29_fq_R hv29_0 hv29_1 hv29_2; exact absurd hm29 (by omega)
    | succ n29 ih29 =>
      intro ls f_29 H locs v29_3 g29_dq_R hm29 hl h t_29 o_29 jv29_1 jv29_2 iv29_3 k29_u0_10 k29_u0_6 k29_u0_8 k29_u0_5 k29_u0_9 k29_bq_R k29_kq_R k29_dq_R k29_fq_R hv29_0 hv29_1 hv29_2
      refine lv_iload_n hx hb dX11_join_29 rfl (lv_at hl 3 rfl) ?_
      refine lv_bipush (v := 8) hx hb dX11_join_30 (by decide) ?_
      refine lv_icmp_ge (tgt := 77) hx hb dX11_join_32 (by decide) (fun c1 => ?_) (fun c1 => ?_)
      · have c2 : 8 ≤ v29_3.toInt := Int32.le_iff_toInt_le.mp c1
        have i3 : iv v29_3 8 8 := iv_Er c2 (iv_k (x := 8) (k := 8) rfl) iv29_3 (by decide)
        refine lv_aload_n hx hb dX11_join_77 rfl (lv_at hl 0 rfl) ?_
        refine t_getfd C h t_29 hu0 (by decide) wf_60 (v := .ref bq) k29_u0_6 fl_X11_17 dX11_join_78 ?_
        refine lv_bipush (v := 80) hx hb dX11_join_81 (by decide) ?_
        refine e_bk80 C h t_29 hbq (by decide) wf_63 k29_bq_R dX11_join_83 (fun z6 ez6 iz6 => ?_)
        have mz6 := congrArg Int32.toInt ez6
        refine lv_bipush (v := 8) hx hb dX11_join_84 (by decide) ?_
        refine lv_icmp_ne (tgt := 95) hx hb dX11_join_86 (by decide) (fun c7 => ?_) (fun c7 => ?_)
        · have c8 : z6.toInt ≠ 8 := fun z_ => c7 (Int32.toInt_inj.mp z_)
          have i9 : iv z6 0 7 := iv_Nh c8 iz6 (by decide)
          refine lv_aload_n hx hb dX11_join_95 rfl (lv_at hl 0 rfl) ?_
          refine t_getfd C h t_29 hu0 (by decide) wf_60 (v := .ref dq) k29_u0_5 fl_X11_13 dX11_join_96 ?_
          refine lv_bipush (v := 8) hx hb dX11_join_99 (by decide) ?_
          refine lv_aload_n hx hb dX11_join_101 rfl (lv_at hl 0 rfl) ?_
          refine lv_iload_n hx hb dX11_join_102 rfl (lv_at hl 1 rfl) ?_
          refine lv_bipush (v := 8) hx hb dX11_join_103 (by decide) ?_
          obtain ⟨_, r12⟩ := t_rec t_29 hu0 (by decide) wf_60
          refine k_i (r_V C h hl (As := [.int u1, .int 8]) (rest := [.int 8, .ref dq]) (s_X11_weightOfX l D G b0 τ f_29 t_29 u0 hu0 u1 jv29_1 8 (iv_w (iv_k (x := 8) (k := 8) rfl) (by decide)) bq hbq k29_u0_6 rb k29_bq_R) r12 (Cn := RX11) (T := TX11) (N := 32) rfl rfl mk_X11_weightOf w_1631 w_1633 w_52 w_1634 ⟨Nat.le_of_ble_eq_true rfl, Nat.le_of_ble_eq_true rfl⟩ rfl (Nat.le_of_ble_eq_true rfl) ⟨Nat.le_of_ble_eq_true rfl, Nat.le_of_ble_eq_true rfl⟩ rfl dX11_join_105) h (fun r13 f14 H locs p15 h => ?_)
          have n16 : (8 : Int32).toInt = 8 := rfl
          obtain ⟨ir13, tf14, ogf14, x0r13, x1r13⟩ := p15
          have x0r13 : r13 = (rb (10 * u1.toInt + 8).toNat) := x0r13
          have x1r13 : r13.toInt = (rb (10 * u1.toInt + 8).toNat).toInt := x1r13
          have egf14 := Fr.nil2 ogf14
          subst egf14
          refine e_iast C h t_29 o_29 hdq (by decide) (by decide) wf_62 fw_62 k29_dq_R (by unfold vp_in; decide) (iv_w ir13 (by decide)) dX11_join_108 (fun R19 f17 erR19 H locs h tf17 of17 hq hn_ k18 => ?_)
          have erR19 : R19 = upd g29_dq_R 8 r13 := erR19
          have k20 := atp.tg k29_u0_10 hq hu0 (by decide)
          have k21 := atp.tg k29_u0_6 hq hu0 (by decide)
          have k22 := atp.tg k29_u0_8 hq hu0 (by decide)
          have k23 := atp.tg k29_u0_5 hq hu0 (by decide)
          have k24 := atp.tg k29_u0_9 hq hu0 (by decide)
          have k25 := atp.tg k29_bq_R hq hbq (by decide)
          have k26 := atp.tg k29_kq_R hq hkq (by decide)
          have k28 := atp.tg k29_fq_R hq hfq (by decide)
          refine lv_aload_n hx hb dX11_join_109 rfl (lv_at hl 0 rfl) ?_
          refine t_getfd C h tf17 hu0 (by decide) wf_60 (v := .ref dq) k23 fl_X11_13 dX11_join_110 ?_
          refine lv_bipush (v := 9) hx hb dX11_join_113 (by decide) ?_
          refine lv_aload_n hx hb dX11_join_115 rfl (lv_at hl 0 rfl) ?_
          refine lv_iload_n hx hb dX11_join_116 rfl (lv_at hl 1 rfl) ?_
          refine lv_bipush (v := 9) hx hb dX11_join_117 (by decide) ?_
          obtain ⟨_, r29⟩ := t_rec tf17 hu0 (by decide) wf_60
          refine k_i (r_V C h hl (As := [.int u1, .int 9]) (rest := [.int 9, .ref dq]) (s_X11_weightOfX l D G b0 τ f17 tf17 u0 hu0 u1 jv29_1 9 (iv_w (iv_k (x := 9) (k := 9) rfl) (by decide)) bq hbq k21 rb k25) r29 (Cn := RX11) (T := TX11) (N := 32) rfl rfl mk_X11_weightOf w_1631 w_1633 w_52 w_1634 ⟨Nat.le_of_ble_eq_true rfl, Nat.le_of_ble_eq_true rfl⟩ rfl (Nat.le_of_ble_eq_true rfl) ⟨Nat.le_of_ble_eq_true rfl, Nat.le_of_ble_eq_true rfl⟩ rfl dX11_join_119) h (fun r30 f31 H locs p32 h => ?_)
          have n33 : (9 : Int32).toInt = 9 := rfl
          obtain ⟨ir30, tf31, ogf31, x0r30, x1r30⟩ := p32
          have x0r30 : r30 = (rb (10 * u1.toInt + 9).toNat) := x0r30
          have x1r30 : r30.toInt = (rb (10 * u1.toInt + 9).toNat).toInt := x1r30
          have egf31 := Fr.nil2 ogf31
          subst egf31
          refine e_iast C h tf17 of17 hdq (by decide) (by decide) wf_62 fw_62 k18 (by unfold vp_in; decide) (iv_w ir30 (by decide)) dX11_join_122 (fun R36 f34 erR36 H locs h tf34 of34 hq hn_ k35 => ?_)
          have erR36 : R36 = upd R19 9 r30 := erR36
          have k37 := atp.tg k20 hq hu0 (by decide)
          have k38 := atp.tg k21 hq hu0 (by decide)
          have k39 := atp.tg k22 hq hu0 (by decide)
          have k40 := atp.tg k23 hq hu0 (by decide)
          have k41 := atp.tg k24 hq hu0 (by decide)
          have k42 := atp.tg k25 hq hbq (by decide)
          have k43 := atp.tg k26 hq hkq (by decide)
          have k44 := atp.tg k28 hq hfq (by decide)
          refine lv_aload_n hx hb dX11_join_123 rfl (lv_at hl 0 rfl) ?_
          have hfd : ∀ k : Nat, k < 10 → R36 k = jo rb u1.toInt u2.toInt k := fun k hk => by
            rw [erR36, erR19]; unfold jo
            by_cases q9 : k = 9
            · rw [upd_at q9, x0r30]; (repeat' split) <;> first | rfl | (exfalso; omega) | (exact congrArg _ (by omega))
            · rw [upd_off q9]; by_cases q8 : k = 8
              · rw [upd_at q8, x0r13]; (repeat' split) <;> first | rfl | (exfalso; omega) | (exact congrArg _ (by omega))
              · rw [upd_off q8, hv29_2 k]; (repeat' split) <;> first | rfl | (exfalso; omega) | (exact congrArg _ (by omega))
          obtain ⟨_, r46⟩ := t_rec tf34 hu0 (by decide) wf_60
          refine k_i (r_V C h hl (As := []) (rest := []) (s_X11_comesX l D G b0 τ f34 tf34 u0 hu0 ac hac k37 bq hbq k38 kq hkq k39 dq hdq k40 rb k42 rk k43 R36 k35 (fun k hk => by
              rw [hfd k hk]; unfold jo; (repeat' split)
              · have := hv29_1 k (by omega); have h1_ := hb9 (10 * u1.toInt + k).toNat (by omega); have h2_ := hb9 (10 * u2.toInt + k).toNat (by omega); rw [iv, iv_addE h1_ h2_ (by decide)]; omega
              · exact hb9 _ (by omega)) (by omega)) r46 (Cn := RX11) (T := TX11) (N := 32) rfl rfl mk_X11_comes w_1608 w_1610 w_49 w_1611 ⟨Nat.le_of_ble_eq_true rfl, Nat.le_of_ble_eq_true rfl⟩ rfl (Nat.le_of_ble_eq_true rfl) ⟨Nat.le_of_ble_eq_true rfl, Nat.le_of_ble_eq_true rfl⟩ rfl dX11_join_124) h (fun r47 f48 H locs p49 h => ?_)
          obtain ⟨ir47, tf48, ogf48, x0r47, ⟨ac1_f48, kpu0_10f48, ipu0_10f48, rpu0_10f48⟩, ⟨rb1_f48, kRbqf48, pRbqf48⟩, ⟨rk1_f48, kRkqf48, pRkqf48⟩⟩ := p49
          have of48 : Fr [60, 62, 63, 65, 66, 60001, 60011] τ f f48 := Fr.tr of34 ogf48 (by decide) (by decide)
          have k50 := atp.fk k38 ogf48 hu0 (by decide) (by decide)
          have k51 := atp.fk k39 ogf48 hu0 (by decide) (by decide)
          have k52 := atp.fk k40 ogf48 hu0 (by decide) (by decide)
          have k53 := atp.fk k41 ogf48 hu0 (by decide) (by decide)
          have k54 := atp.fr k44 ogf48 hfq (by decide)
          have k55 := atp.fr k35 ogf48 hdq (by decide)
          exact u_iret C h hr hQ (⟨ir47, tf48, of48, ⟨fun _ => (by omega), fun z_ => (z_ ⟨by omega, by omega, fun s hs => hv29_1 s (by omega), by omega⟩).elim⟩, ⟨ac1_f48, kpu0_10f48, (iv_w ipu0_10f48 (by decide)), ⟨fun _ => (by omega), fun z_ => (z_ ⟨by omega, by omega, fun s hs => hv29_1 s (by omega), by omega⟩).elim⟩⟩, ⟨rb1_f48, kRbqf48, (fun k hk => by
              rw [if_pos ⟨by omega, by omega, fun s hs => hv29_1 s (by omega), by omega⟩]
              rw [pRbqf48 k hk]; exact cme_eq hfd (by omega) k hk)⟩, ⟨rk1_f48, kRkqf48, (fun k hk => by rw [if_pos ⟨by omega, by omega, fun s hs => hv29_1 s (by omega), by omega⟩]; exact pRkqf48 k hk)⟩, ⟨rr, k54, (bump_no (by rw [if_neg (by omega), if_neg (fun z_ => z_ (fun s hs => hv29_1 s (by omega))), if_neg (by omega)]))⟩⟩) (Nat.le_of_ble_eq_true rfl) (Nat.le_of_ble_eq_true rfl) dX11_join_127
        · have c10 : z6.toInt = 8 := congrArg Int32.toInt c7
          have i11 : iv z6 8 8 := iv_Q c10 iz6 (iv_k (x := 8) (k := 8) rfl) (by decide)
          refine lv_aload_n hx hb dX11_join_89 rfl (lv_at hl 0 rfl) ?_
          refine lv_iconst (v := 2) hx hb dX11_join_90 (by decide) ?_
          obtain ⟨_, r56⟩ := t_rec t_29 hu0 (by decide) wf_60
          refine k_i (r_V C h hl (As := [.int 2]) (rest := []) (s_X11_refuseX l D G b0 τ f_29 t_29 u0 hu0 2 (iv_w (iv_k (x := 2) (k := 2) rfl) (by decide)) fq hfq k29_u0_9 rr k29_fq_R) r56 (Cn := RX11) (T := TX11) (N := 32) rfl rfl mk_X11_refuse w_1604 w_1606 w_48 w_1607 ⟨Nat.le_of_ble_eq_true rfl, Nat.le_of_ble_eq_true rfl⟩ rfl (Nat.le_of_ble_eq_true rfl) ⟨Nat.le_of_ble_eq_true rfl, Nat.le_of_ble_eq_true rfl⟩ rfl dX11_join_91) h (fun r57 f58 H locs p59 h => ?_)
          obtain ⟨ir57, tf58, ogf58, ⟨rr1_f58, kRfqf58, pRfqf58⟩⟩ := p59
          have of58 : Fr [60, 62, 63, 65, 66, 60001, 60011] τ f f58 := Fr.tr o_29 ogf58 (by decide) (by decide)
          have k60 := atp.fr k29_u0_10 ogf58 hu0 (by decide)
          have k61 := atp.fr k29_u0_6 ogf58 hu0 (by decide)
          have k62 := atp.fr k29_u0_8 ogf58 hu0 (by decide)
          have k63 := atp.fr k29_u0_5 ogf58 hu0 (by decide)
          have k64 := atp.fr k29_u0_9 ogf58 hu0 (by decide)
          have k65 := atp.fr k29_bq_R ogf58 hbq (by decide)
          have k66 := atp.fr k29_kq_R ogf58 hkq (by decide)
          have k67 := atp.fr k29_dq_R ogf58 hdq (by decide)
          exact u_iret C h hr hQ (⟨(iv_w ir57 (by decide)), tf58, of58, ⟨fun z_ => absurd z_ (by omega), fun _ => (by omega)⟩, ⟨ac, k60, hac, ⟨fun z_ => absurd z_ (by omega), fun _ => rfl⟩⟩, ⟨rb, k65, (fun k hk => by rw [if_neg (by omega)])⟩, ⟨rk, k66, (fun k hk => by rw [if_neg (by omega)])⟩, ⟨rr1_f58, kRfqf58, (bump_eq (c := 2) pRfqf58 rfl (by decide) (by rw [if_neg (by omega), if_neg (fun z_ => z_ (fun s hs => hv29_1 s (by omega))), if_pos (by omega)]))⟩⟩) (Nat.le_of_ble_eq_true rfl) (Nat.le_of_ble_eq_true rfl) dX11_join_94
      · have c4 : v29_3.toInt < 8 := Int32.lt_iff_toInt_lt.mp (iv_nle c1)
        have i5 : iv v29_3 0 7 := iv_Ll c4 iv29_3 (iv_k (x := 8) (k := 8) rfl) (by decide)
        refine lv_aload_n hx hb dX11_join_35 rfl (lv_at hl 0 rfl) ?_
        refine t_getfd C h t_29 hu0 (by decide) wf_60 (v := .ref dq) k29_u0_5 fl_X11_13 dX11_join_36 ?_
        refine lv_iload_n hx hb dX11_join_39 rfl (lv_at hl 3 rfl) ?_
        refine lv_aload_n hx hb dX11_join_40 rfl (lv_at hl 0 rfl) ?_
        refine lv_iload_n hx hb dX11_join_41 rfl (lv_at hl 1 rfl) ?_
        refine lv_iload_n hx hb dX11_join_42 rfl (lv_at hl 3 rfl) ?_
        obtain ⟨_, r68⟩ := t_rec t_29 hu0 (by decide) wf_60
        refine k_i (r_V C h hl (As := [.int u1, .int v29_3]) (rest := [.int v29_3, .ref dq]) (s_X11_weightOfX l D G b0 τ f_29 t_29 u0 hu0 u1 jv29_1 v29_3 (iv_w i5 (by decide)) bq hbq k29_u0_6 rb k29_bq_R) r68 (Cn := RX11) (T := TX11) (N := 32) rfl rfl mk_X11_weightOf w_1631 w_1633 w_52 w_1634 ⟨Nat.le_of_ble_eq_true rfl, Nat.le_of_ble_eq_true rfl⟩ rfl (Nat.le_of_ble_eq_true rfl) ⟨Nat.le_of_ble_eq_true rfl, Nat.le_of_ble_eq_true rfl⟩ rfl dX11_join_43) h (fun r69 f70 H locs p71 h => ?_)
        obtain ⟨ir69, tf70, ogf70, x0r69, x1r69⟩ := p71
        have egf70 := Fr.nil2 ogf70
        subst egf70
        refine lv_aload_n hx hb dX11_join_46 rfl (lv_at hl 0 rfl) ?_
        refine lv_iload_n hx hb dX11_join_47 rfl (lv_at hl 2 rfl) ?_
        refine lv_iload_n hx hb dX11_join_48 rfl (lv_at hl 3 rfl) ?_
        obtain ⟨_, r72⟩ := t_rec t_29 hu0 (by decide) wf_60
        refine k_i (r_V C h hl (As := [.int u2, .int v29_3]) (rest := [.int r69, .int v29_3, .ref dq]) (s_X11_weightOfX l D G b0 τ f_29 t_29 u0 hu0 u2 jv29_2 v29_3 (iv_w i5 (by decide)) bq hbq k29_u0_6 rb k29_bq_R) r72 (Cn := RX11) (T := TX11) (N := 32) rfl rfl mk_X11_weightOf w_1631 w_1633 w_52 w_1634 ⟨Nat.le_of_ble_eq_true rfl, Nat.le_of_ble_eq_true rfl⟩ rfl (Nat.le_of_ble_eq_true rfl) ⟨Nat.le_of_ble_eq_true rfl, Nat.le_of_ble_eq_true rfl⟩ rfl dX11_join_49) h (fun r73 f74 H locs p75 h => ?_)
        obtain ⟨ir73, tf74, ogf74, x0r73, x1r73⟩ := p75
        have egf74 := Fr.nil2 ogf74
        subst egf74
        refine i_add hx hb dX11_join_52 ir69 ir73 (lo := 0) (hi := 18) (by decide) (fun z76 ez76 mz76 iz76 => ?_)
        refine e_iast C h t_29 o_29 hdq (by decide) (by decide) wf_62 fw_62 k29_dq_R (iv_in i5 (by decide)) (iv_w iz76 (by decide)) dX11_join_53 (fun R79 f77 erR79 H locs h tf77 of77 hq hn_ k78 => ?_)
        have k80 := atp.tg k29_u0_10 hq hu0 (by decide)
        have k81 := atp.tg k29_u0_6 hq hu0 (by decide)
        have k82 := atp.tg k29_u0_8 hq hu0 (by decide)
        have k83 := atp.tg k29_u0_5 hq hu0 (by decide)
        have k84 := atp.tg k29_u0_9 hq hu0 (by decide)
        have k85 := atp.tg k29_bq_R hq hbq (by decide)
        have k86 := atp.tg k29_kq_R hq hkq (by decide)
        have k88 := atp.tg k29_fq_R hq hfq (by decide)
        refine lv_aload_n hx hb dX11_join_54 rfl (lv_at hl 0 rfl) ?_
        refine t_getfd C h tf77 hu0 (by decide) wf_60 (v := .ref dq) k83 fl_X11_13 dX11_join_55 ?_
        refine lv_iload_n hx hb dX11_join_58 rfl (lv_at hl 3 rfl) ?_
        refine e_iald C h tf77 hdq (by decide) wf_62 k78 (iv_in i5 (by decide)) dX11_join_59 (fun z89 ez89 iz89 => ?_)
        have mz89 := congrArg Int32.toInt ez89
        have mj : z89.toInt = z76.toInt := by rw [ez89, erR79, upd_at rfl]
        refine lv_bipush (v := 9) hx hb dX11_join_60 (by decide) ?_
        refine lv_icmp_le (tgt := 71) hx hb dX11_join_62 (by decide) (fun c90 => ?_) (fun c90 => ?_)
        · have c91 : z89.toInt ≤ 9 := Int32.le_iff_toInt_le.mp c90
          have i92 : iv z89 (-2147483648) 9 := iv_El c91 iz89 (iv_k (x := 9) (k := 9) rfl) (by decide)
          refine i_inc hx hb dX11_join_71 hl (k := 3) rfl i5 rfl (lo := 1) (hi := 8) (by decide) (by decide) (lv' := fun v => [(3, .int v), (0, .ref u0), (1, .int u1), (2, .int u2)]) (fun _ => rfl) (fun z95 ls ez95 mz95 iz95 hl => ?_)
          refine lv_goto (tgt := 29) hx hb dX11_join_74 (by decide) ?_
          exact ih29 ls f77 H locs z95 R79 (show 8 - z95.toInt < _ by omega) (lv_cons hl 1 rfl (lv_cons hl 2 rfl (lv_cons hl 3 rfl (lv_cons hl 0 rfl (lv_nil hl))))) h tf77 of77 jv29_1 jv29_2 (iv_w iz95 (by decide)) k80 k81 k82 k83 k84 k85 k86 k78 k88 (show (0 ≤ u1.toInt ∧ u1.toInt < (rb 80).toInt) ∧ (0 ≤ u2.toInt ∧ u2.toInt < (rb 80).toInt) by omega) (show ∀ s : Nat, (s : Int) < z95.toInt → (rb (10 * u1.toInt + s).toNat).toInt + (rb (10 * u2.toInt + s).toNat).toInt ≤ 9 from (fun s hs => by
              by_cases q_ : (s : Int) < v29_3.toInt
              · exact hv29_1 s q_
              · rw [show (s : Int) = v29_3.toInt by omega]; omega)) (show ∀ k : Nat, R79 k = if (k : Int) < z95.toInt then rb (10 * u1.toInt + k).toNat + rb (10 * u2.toInt + k).toNat else rd k from (by
              intro k; rw [erR79]; by_cases q_ : k = v29_3.toInt.toNat
              · rw [upd_at q_, ez76, x0r69, x0r73]; (repeat' split) <;> first | rfl | (exfalso; omega) | (exact congrArg _ (by omega)) | (exact congr (congrArg HAdd.hAdd (congrArg rb (by omega))) (congrArg rb (by omega)))
              · rw [upd_off q_, hv29_2 k]; (repeat' split) <;> first | rfl | (exfalso; omega) | (exact congrArg _ (by omega))))
        · have c93 : 9 < z89.toInt := Int32.lt_iff_toInt_lt.mp (iv_nle c90)
          have i94 : iv z89 10 2147483647 := iv_Lr c93 (iv_k (x := 9) (k := 9) rfl) iz89 (by decide)
          refine lv_aload_n hx hb dX11_join_65 rfl (lv_at hl 0 rfl) ?_
          refine lv_iconst (v := 1) hx hb dX11_join_66 (by decide) ?_
          obtain ⟨_, r96⟩ := t_rec tf77 hu0 (by decide) wf_60
          refine k_i (r_V C h hl (As := [.int 1]) (rest := []) (s_X11_refuseX l D G b0 τ f77 tf77 u0 hu0 1 (iv_w (iv_k (x := 1) (k := 1) rfl) (by decide)) fq hfq k84 rr k88) r96 (Cn := RX11) (T := TX11) (N := 32) rfl rfl mk_X11_refuse w_1604 w_1606 w_48 w_1607 ⟨Nat.le_of_ble_eq_true rfl, Nat.le_of_ble_eq_true rfl⟩ rfl (Nat.le_of_ble_eq_true rfl) ⟨Nat.le_of_ble_eq_true rfl, Nat.le_of_ble_eq_true rfl⟩ rfl dX11_join_67) h (fun r97 f98 H locs p99 h => ?_)
          obtain ⟨ir97, tf98, ogf98, ⟨rr1_f98, kRfqf98, pRfqf98⟩⟩ := p99
          have of98 : Fr [60, 62, 63, 65, 66, 60001, 60011] τ f f98 := Fr.tr of77 ogf98 (by decide) (by decide)
          have k100 := atp.fr k80 ogf98 hu0 (by decide)
          have k101 := atp.fr k81 ogf98 hu0 (by decide)
          have k102 := atp.fr k82 ogf98 hu0 (by decide)
          have k103 := atp.fr k83 ogf98 hu0 (by decide)
          have k104 := atp.fr k84 ogf98 hu0 (by decide)
          have k105 := atp.fr k85 ogf98 hbq (by decide)
          have k106 := atp.fr k86 ogf98 hkq (by decide)
          have k107 := atp.fr k78 ogf98 hdq (by decide)
          exact u_iret C h hr hQ (⟨(iv_w ir97 (by decide)), tf98, of98, ⟨fun z_ => absurd z_ (fun z_ => by have h_ := z_.2.2.1 v29_3.toInt.toNat (by omega); rw [show ((v29_3.toInt.toNat : Nat) : Int) = v29_3.toInt by omega] at h_; omega), fun _ => (by omega)⟩, ⟨ac, k100, hac, ⟨fun z_ => absurd z_ (fun z_ => by have h_ := z_.2.2.1 v29_3.toInt.toNat (by omega); rw [show ((v29_3.toInt.toNat : Nat) : Int) = v29_3.toInt by omega] at h_; omega), fun _ => rfl⟩⟩, ⟨rb, k105, (fun k hk => by rw [if_neg (fun z_ => by have h_ := z_.2.2.1 v29_3.toInt.toNat (by omega); rw [show ((v29_3.toInt.toNat : Nat) : Int) = v29_3.toInt by omega] at h_; omega)])⟩, ⟨rk, k106, (fun k hk => by rw [if_neg (fun z_ => by have h_ := z_.2.2.1 v29_3.toInt.toNat (by omega); rw [show ((v29_3.toInt.toNat : Nat) : Int) = v29_3.toInt by omega] at h_; omega)])⟩, ⟨rr1_f98, kRfqf98, (bump_eq (c := 1) pRfqf98 rfl (by decide) (by rw [if_neg (by omega), if_pos (fun z_ => by have h_ := z_ v29_3.toInt.toNat (by omega); rw [show ((v29_3.toInt.toNat : Nat) : Int) = v29_3.toInt by omega] at h_; omega)]))⟩⟩) (Nat.le_of_ble_eq_true rfl) (Nat.le_of_ble_eq_true rfl) dX11_join_70
  refine lv_aload_n hx hb dX11_join_0 rfl (lv_at hl 0 rfl) ?_
  refine lv_iconst (v := 0) hx hb dX11_join_1 (by decide) ?_
  refine t_put C h t o hu0 (by decide) (by decide) (by decide) wf_60 fw_60 (k := 0) rfl flw_X11_75 (Or.inr ⟨_, _, _, rfl, rfl⟩) (v := .int 0) rfl rfl ⟨_, rfl, ⟨by decide, by decide⟩⟩ dX11_join_2 (fun f108 H locs h tf108 of108 hq ha_ hn_ hk_ => ?_)
  have k109 := hk_ 10 _ (by decide) k_u0_10
  have k110 := hk_ 6 _ (by decide) k_u0_6
  have k111 := hk_ 8 _ (by decide) k_u0_8
  have k112 := hk_ 5 _ (by decide) k_u0_5
  have k113 := hk_ 9 _ (by decide) k_u0_9
  have k114 := atp.tg hRbq hq hbq (by decide)
  have k115 := atp.tg hRkq hq hkq (by decide)
  have k116 := atp.tg hRdq hq hdq (by decide)
  have k117 := atp.tg hRfq hq hfq (by decide)
  have k118 := ha_
  refine lv_aload_n hx hb dX11_join_5 rfl (lv_at hl 0 rfl) ?_
  refine lv_iload_n hx hb dX11_join_6 rfl (lv_at hl 1 rfl) ?_
  obtain ⟨_, r119⟩ := t_rec tf108 hu0 (by decide) wf_60
  refine k_i (r_V C h hl (As := [.int u1]) (rest := []) (s_X11_isSetX l D G b0 τ f108 tf108 u0 hu0 u1 hu1 bq hbq k110 rb k114) r119 (Cn := RX11) (T := TX11) (N := 32) rfl rfl mk_X11_isSet w_1620 w_1622 w_51 w_1623 ⟨Nat.le_of_ble_eq_true rfl, Nat.le_of_ble_eq_true rfl⟩ rfl (Nat.le_of_ble_eq_true rfl) ⟨Nat.le_of_ble_eq_true rfl, Nat.le_of_ble_eq_true rfl⟩ rfl dX11_join_7) h (fun r120 f121 H locs p122 h => ?_)
  obtain ⟨ir120, tf121, ogf121, cnr120, czr120⟩ := p122
  have egf121 := Fr.nil2 ogf121
  subst egf121
  refine lv_if_eq (tgt := 21) hx hb dX11_join_10 (by decide) (fun c123 => ?_) (fun c123 => ?_)
  · have c124 : r120.toInt = 0 := congrArg Int32.toInt c123
    have i125 : iv r120 0 0 := iv_Q c124 ir120 (iv_k (x := 0) (k := 0) rfl) (by decide)
    have i126 := czr120 c124
    refine lv_aload_n hx hb dX11_join_21 rfl (lv_at hl 0 rfl) ?_
    refine lv_iconst (v := 0) hx hb dX11_join_22 (by decide) ?_
    obtain ⟨_, r131⟩ := t_rec tf108 hu0 (by decide) wf_60
    refine k_i (r_V C h hl (As := [.int 0]) (rest := []) (s_X11_refuseX l D G b0 τ f108 tf108 u0 hu0 0 (iv_w (iv_k (x := 0) (k := 0) rfl) (by decide)) fq hfq k113 rr k117) r131 (Cn := RX11) (T := TX11) (N := 32) rfl rfl mk_X11_refuse w_1604 w_1606 w_48 w_1607 ⟨Nat.le_of_ble_eq_true rfl, Nat.le_of_ble_eq_true rfl⟩ rfl (Nat.le_of_ble_eq_true rfl) ⟨Nat.le_of_ble_eq_true rfl, Nat.le_of_ble_eq_true rfl⟩ rfl dX11_join_23) h (fun r132 f133 H locs p134 h => ?_)
    obtain ⟨ir132, tf133, ogf133, ⟨rr1_f133, kRfqf133, pRfqf133⟩⟩ := p134
    have of133 : Fr [60, 62, 63, 65, 66, 60001, 60011] τ f f133 := Fr.tr of108 ogf133 (by decide) (by decide)
    have k135 := atp.fr k109 ogf133 hu0 (by decide)
    have k136 := atp.fr k110 ogf133 hu0 (by decide)
    have k137 := atp.fr k111 ogf133 hu0 (by decide)
    have k138 := atp.fr k112 ogf133 hu0 (by decide)
    have k139 := atp.fr k113 ogf133 hu0 (by decide)
    have k140 := atp.fr k114 ogf133 hbq (by decide)
    have k141 := atp.fr k115 ogf133 hkq (by decide)
    have k142 := atp.fr k116 ogf133 hdq (by decide)
    exact u_iret C h hr hQ (⟨(iv_w ir132 (by decide)), tf133, of133, ⟨fun z_ => absurd z_ (by omega), fun _ => (by omega)⟩, ⟨ac, k135, hac, ⟨fun z_ => absurd z_ (by omega), fun _ => rfl⟩⟩, ⟨rb, k140, (fun k hk => by rw [if_neg (by omega)])⟩, ⟨rk, k141, (fun k hk => by rw [if_neg (by omega)])⟩, ⟨rr1_f133, kRfqf133, (bump_eq (c := 0) pRfqf133 rfl (by decide) (by rw [if_pos (by omega)]))⟩⟩) (Nat.le_of_ble_eq_true rfl) (Nat.le_of_ble_eq_true rfl) dX11_join_26
  · have c127 : r120.toInt ≠ 0 := fun z_ => c123 (Int32.toInt_inj.mp z_)
    have i128 : iv r120 1 1 := iv_Nl c127 ir120 (by decide)
    obtain ⟨i129, i130⟩ := cnr120 c127
    refine lv_aload_n hx hb dX11_join_13 rfl (lv_at hl 0 rfl) ?_
    refine lv_iload_n hx hb dX11_join_14 rfl (lv_at hl 2 rfl) ?_
    obtain ⟨_, r143⟩ := t_rec tf108 hu0 (by decide) wf_60
    refine k_i (r_V C h hl (As := [.int u2]) (rest := []) (s_X11_isSetX l D G b0 τ f108 tf108 u0 hu0 u2 hu2 bq hbq k110 rb k114) r143 (Cn := RX11) (T := TX11) (N := 32) rfl rfl mk_X11_isSet w_1620 w_1622 w_51 w_1623 ⟨Nat.le_of_ble_eq_true rfl, Nat.le_of_ble_eq_true rfl⟩ rfl (Nat.le_of_ble_eq_true rfl) ⟨Nat.le_of_ble_eq_true rfl, Nat.le_of_ble_eq_true rfl⟩ rfl dX11_join_15) h (fun r144 f145 H locs p146 h => ?_)
    obtain ⟨ir144, tf145, ogf145, cnr144, czr144⟩ := p146
    have egf145 := Fr.nil2 ogf145
    subst egf145
    refine lv_if_ne (tgt := 27) hx hb dX11_join_18 (by decide) (fun c147 => ?_) (fun c147 => ?_)
    · have c148 : r144.toInt ≠ 0 := fun z_ => c147 (Int32.toInt_inj.mp z_)
      have i149 : iv r144 1 1 := iv_Nl c148 ir144 (by decide)
      obtain ⟨i150, i151⟩ := cnr144 c148
      refine lv_iconst (v := 0) hx hb dX11_join_27 (by decide) ?_
      refine lv_istore_n (lv' := [(3, .int 0), (0, .ref u0), (1, .int u1), (2, .int u2)]) hx hb dX11_join_28 rfl hl (by decide) rfl (fun ls hl => ?_)
      exact L29 9 ls f108 H locs 0 rd (by decide) (lv_cons hl 1 rfl (lv_cons hl 2 rfl (lv_cons hl 3 rfl (lv_cons hl 0 rfl (lv_nil hl))))) h tf108 of108 i129 i150 ⟨by decide, by decide⟩ k109 k110 k111 k112 k113 k114 k115 k116 k117 (show (0 ≤ u1.toInt ∧ u1.toInt < (rb 80).toInt) ∧ (0 ≤ u2.toInt ∧ u2.toInt < (rb 80).toInt) by omega) (show ∀ s : Nat, (s : Int) < 0 → (rb (10 * u1.toInt + s).toNat).toInt + (rb (10 * u2.toInt + s).toNat).toInt ≤ 9 from (fun s hs => by omega)) (show ∀ k : Nat, rd k = if (k : Int) < 0 then rb (10 * u1.toInt + k).toNat + rb (10 * u2.toInt + k).toNat else rd k from (by
          intro k; (repeat' split) <;> first | rfl | (exfalso; omega) | (exact congrArg _ (by omega))))
    · have c152 : r144.toInt = 0 := congrArg Int32.toInt c147
      have i153 : iv r144 0 0 := iv_Q c152 ir144 (iv_k (x := 0) (k := 0) rfl) (by decide)
      have i154 := czr144 c152
      refine lv_aload_n hx hb dX11_join_21 rfl (lv_at hl 0 rfl) ?_
      refine lv_iconst (v := 0) hx hb dX11_join_22 (by decide) ?_
      obtain ⟨_, r155⟩ := t_rec tf108 hu0 (by decide) wf_60
      refine k_i (r_V C h hl (As := [.int 0]) (rest := []) (s_X11_refuseX l D G b0 τ f108 tf108 u0 hu0 0 (iv_w (iv_k (x := 0) (k := 0) rfl) (by decide)) fq hfq k113 rr k117) r155 (Cn := RX11) (T := TX11) (N := 32) rfl rfl mk_X11_refuse w_1604 w_1606 w_48 w_1607 ⟨Nat.le_of_ble_eq_true rfl, Nat.le_of_ble_eq_true rfl⟩ rfl (Nat.le_of_ble_eq_true rfl) ⟨Nat.le_of_ble_eq_true rfl, Nat.le_of_ble_eq_true rfl⟩ rfl dX11_join_23) h (fun r156 f157 H locs p158 h => ?_)
      obtain ⟨ir156, tf157, ogf157, ⟨rr1_f157, kRfqf157, pRfqf157⟩⟩ := p158
      have of157 : Fr [60, 62, 63, 65, 66, 60001, 60011] τ f f157 := Fr.tr of108 ogf157 (by decide) (by decide)
      have k159 := atp.fr k109 ogf157 hu0 (by decide)
      have k160 := atp.fr k110 ogf157 hu0 (by decide)
      have k161 := atp.fr k111 ogf157 hu0 (by decide)
      have k162 := atp.fr k112 ogf157 hu0 (by decide)
      have k163 := atp.fr k113 ogf157 hu0 (by decide)
      have k164 := atp.fr k114 ogf157 hbq (by decide)
      have k165 := atp.fr k115 ogf157 hkq (by decide)
      have k166 := atp.fr k116 ogf157 hdq (by decide)
      exact u_iret C h hr hQ (⟨(iv_w ir156 (by decide)), tf157, of157, ⟨fun z_ => absurd z_ (by omega), fun _ => (by omega)⟩, ⟨ac, k159, hac, ⟨fun z_ => absurd z_ (by omega), fun _ => rfl⟩⟩, ⟨rb, k164, (fun k hk => by rw [if_neg (by omega)])⟩, ⟨rk, k165, (fun k hk => by rw [if_neg (by omega)])⟩, ⟨rr1_f157, kRfqf157, (bump_eq (c := 0) pRfqf157 rfl (by decide) (by rw [if_pos (by omega)]))⟩⟩) (Nat.le_of_ble_eq_true rfl) (Nat.le_of_ble_eq_true rfl) dX11_join_26
abbrev rm_s_X11_undoX : Room := { frames := 0, cells := 0, slots := 0, locals := 0 }
set_option maxRecDepth 100000 in
set_option maxHeartbeats 4000000 in
theorem s_X11_undoX (l : Launch) (D : va_G) (G : Nat → Nat) (b0 : Nat) (τ : Nat → Nat) (f : hM) (t : TI G 9 τ f) (u0 : Nat) (hu0 : τ u0 = 60) (ac : Int32) (hac : iv ac 0 12) (k_u0_10 : atp f u0 (fd 10 (.int ac))) (bq : Nat) (hbq : τ bq = 63) (k_u0_6 : atp f u0 (fd 6 (.ref bq))) (kq : Nat) (hkq : τ kq = 65) (k_u0_8 : atp f u0 (fd 8 (.ref kq))) (rb : Nat → Int32) (hRbq : atp f bq (eqc (.inl (G 1, 81, .inl rb)))) (rk : Nat → Int32) (hRkq : atp f kq (eqc (.inl (G 1, 972, .inl rk)))) (hr0 : ac.toInt ≠ 0 → (rk (81 * (ac.toInt - 1) + 80).toNat).toInt ≤ 8) : mI l yX11_undo cX11_undo 2 (.int) rm_s_X11_undoX D G b0 f [.ref u0] (fun r f1 => iv r (-1) 11 ∧ TI G 9 τ f1 ∧ Fr [60, 63, 60001, 60011] τ f f1 ∧ ((ac.toInt = 0 → r.toInt = -1) ∧ (ac.toInt ≠ 0 → r.toInt = ac.toInt - 1)) ∧ (∃ ac1 : Int32, atp f1 u0 (fd 10 (.int ac1)) ∧ iv ac1 0 12 ∧ (ac.toInt = 0 → ac1.toInt = 0) ∧ (ac.toInt ≠ 0 → ac1.toInt = ac.toInt - 1)) ∧ (∃ rb1 : Nat → Int32, atp f1 bq (eqc (.inl (G 1, 81, .inl rb1))) ∧ (∀ k : Nat, k < 81 → rb1 k = if ac.toInt = 0 then rb k else rk (81 * (ac.toInt - 1) + k).toNat))) := by
  refine met2 (own := RX11) (by decide) rfl (Nat.le_of_ble_eq_true rfl) ?_
  intro p e s m args below meth c ls Q hQ C hr hini hl h
  have hl : lv_has ls 2 [(0, .ref u0)] := hl
  obtain ⟨hx, hb, hml, hown, hts, hE0, hlk⟩ := id C
  have o := Fr.rf [60, 63, 60001, 60011] τ f
  have L26 : ∀ (n26 : Nat) (ls : Array Slot) (f_26 : hM) (H : Heap) (locs : List Loc) (v26_1 : Int32) (g26_bq_R : Nat → Int32) (g26_u0_10 : Int32), 81 - v26_1.toInt < (n26 : Int) → lv_has ls 2 [(0, .ref u0), (1, .int v26_1)] → hw D b0 s.heap f_26 H locs → TI G 9 τ f_26 → Fr [60, 63, 60001, 60011] τ f f_26 → iv v26_1 0 81 → iv g26_u0_10 0 11 → atp f_26 u0 (fd 6 (.ref bq)) → atp f_26 u0 (fd 8 (.ref kq)) → atp f_26 bq (eqc (.inl (G 1, 81, .inl g26_bq_R))) → atp f_26 kq (eqc (.inl (G 1, 972, .inl rk))) → atp f_26 u0 (fd 10 (.int g26_u0_10)) → g26_u0_10.toInt = ac.toInt - 1 → (∀ k : Nat, g26_bq_R k = if (k : Int) < v26_1.toInt then rk (81 * (ac.toInt - 1) + k).toNat else rb k) → W p l e rm_s_X11_undoX s m args below meth c H locs 0 0 Q (F0 m 26 ls []) := by
    intro n26
    induction n26 with
    | zero => intro ls f_26 H locs v26_1 g26_bq_R g26_u0_10 hm26 hl h t_26 o_26 iv26_1 ig26_u0_10 k26_u0_6 k26_u0_8 k26_bq_R k26_kq_R k26_u0_10 hv26_0 hv26_1; exact absurd hm26 (by omega)
    | succ n26 ih26 =>
      intro ls f_26 H locs v26_1 g26_bq_R g26_u0_10 hm26 hl h t_26 o_26 iv26_1 ig26_u0_10 k26_u0_6 k26_u0_8 k26_bq_R k26_kq_R k26_u0_10 hv26_0 hv26_1
      refine lv_iload_n hx hb dX11_undo_26 rfl (lv_at hl 1 rfl) ?_
      refine lv_bipush (v := 81) hx hb dX11_undo_27 (by decide) ?_
      refine lv_icmp_ge (tgt := 58) hx hb dX11_undo_29 (by decide) (fun c1 => ?_) (fun c1 => ?_)
      · have c2 : 81 ≤ v26_1.toInt := Int32.le_iff_toInt_le.mp c1
        have i3 : iv v26_1 81 81 := iv_Er c2 (iv_k (x := 81) (k := 81) rfl) iv26_1 (by decide)
        refine lv_aload_n hx hb dX11_undo_58 rfl (lv_at hl 0 rfl) ?_
        refine t_getfd C h t_26 hu0 (by decide) wf_60 (v := .int g26_u0_10) k26_u0_10 fl_X11_155 dX11_undo_59 ?_
        exact u_iret C h hr hQ (⟨(iv_w ig26_u0_10 (by decide)), t_26, o_26, (by omega), ⟨g26_u0_10, k26_u0_10, (iv_w ig26_u0_10 (by decide)), (by omega)⟩, ⟨g26_bq_R, k26_bq_R, (fun k hk => by rw [hv26_1 k]; (repeat' split) <;> first | rfl | (exfalso; omega) | (exact congrArg _ (by omega)))⟩⟩) (Nat.le_of_ble_eq_true rfl) (Nat.le_of_ble_eq_true rfl) dX11_undo_62
      · have c4 : v26_1.toInt < 81 := Int32.lt_iff_toInt_lt.mp (iv_nle c1)
        have i5 : iv v26_1 0 80 := iv_Ll c4 iv26_1 (iv_k (x := 81) (k := 81) rfl) (by decide)
        refine lv_aload_n hx hb dX11_undo_32 rfl (lv_at hl 0 rfl) ?_
        refine t_getfd C h t_26 hu0 (by decide) wf_60 (v := .ref bq) k26_u0_6 fl_X11_17 dX11_undo_33 ?_
        refine lv_iload_n hx hb dX11_undo_36 rfl (lv_at hl 1 rfl) ?_
        refine lv_aload_n hx hb dX11_undo_37 rfl (lv_at hl 0 rfl) ?_
        refine t_getfd C h t_26 hu0 (by decide) wf_60 (v := .ref kq) k26_u0_8 fl_X11_23 dX11_undo_38 ?_
        refine lv_bipush (v := 81) hx hb dX11_undo_41 (by decide) ?_
        refine lv_aload_n hx hb dX11_undo_43 rfl (lv_at hl 0 rfl) ?_
        refine t_getfd C h t_26 hu0 (by decide) wf_60 (v := .int g26_u0_10) k26_u0_10 fl_X11_155 dX11_undo_44 ?_
        refine i_cmul hx hb dX11_undo_47 (k := 81) rfl ig26_u0_10 (lo := 0) (hi := 891) (by decide) (fun z6 ez6 mz6 iz6 => ?_)
        refine lv_iload_n hx hb dX11_undo_48 rfl (lv_at hl 1 rfl) ?_
        refine i_add hx hb dX11_undo_49 iz6 i5 (lo := 0) (hi := 971) (by decide) (fun z7 ez7 mz7 iz7 => ?_)
        refine e_iald C h t_26 hkq (by decide) wf_65 k26_kq_R (iv_in iz7 (by decide)) dX11_undo_50 (fun z8 ez8 iz8 => ?_)
        have mz8 := congrArg Int32.toInt ez8
        refine e_bkst C h t_26 o_26 hbq (by decide) (by decide) wf_63 fw_63 k26_bq_R (bk_or i5 (by omega) ⟨iz8, fun z_ => by rw [ez8, show z7.toInt.toNat = (81 * (ac.toInt - 1) + 80).toNat by omega]; exact hr0 (by omega)⟩) dX11_undo_51 (fun R11 f9 erR11 H locs h tf9 of9 hq hn_ k10 => ?_)
        have k12 := atp.tg k26_u0_6 hq hu0 (by decide)
        have k13 := atp.tg k26_u0_8 hq hu0 (by decide)
        have k15 := atp.tg k26_kq_R hq hkq (by decide)
        have k16 := atp.tg k26_u0_10 hq hu0 (by decide)
        refine i_inc hx hb dX11_undo_52 hl (k := 1) rfl i5 rfl (lo := 1) (hi := 81) (by decide) (by decide) (lv' := fun v => [(1, .int v), (0, .ref u0)]) (fun _ => rfl) (fun z17 ls ez17 mz17 iz17 hl => ?_)
        refine lv_goto (tgt := 26) hx hb dX11_undo_55 (by decide) ?_
        exact ih26 ls f9 H locs z17 R11 g26_u0_10 (show 81 - z17.toInt < _ by omega) (lv_cons hl 1 rfl (lv_cons hl 0 rfl (lv_nil hl))) h tf9 of9 (iv_w iz17 (by decide)) ig26_u0_10 k12 k13 k10 k15 k16 (show g26_u0_10.toInt = ac.toInt - 1 by omega) (show ∀ k : Nat, R11 k = if (k : Int) < z17.toInt then rk (81 * (ac.toInt - 1) + k).toNat else rb k from (by
            intro k; rw [erR11]; by_cases q_ : k = v26_1.toInt.toNat
            · rw [upd_at q_, ez8]; (repeat' split) <;> first | rfl | (exfalso; omega) | (exact congrArg _ (by omega))
            · rw [upd_off q_, hv26_1 k]; (repeat' split) <;> first | rfl | (exfalso; omega) | (exact congrArg _ (by omega))))
  refine lv_aload_n hx hb dX11_undo_0 rfl (lv_at hl 0 rfl) ?_
  refine lv_iconst (v := 0) hx hb dX11_undo_1 (by decide) ?_
  refine t_put C h t o hu0 (by decide) (by decide) (by decide) wf_60 fw_60 (k := 0) rfl flw_X11_75 (Or.inr ⟨_, _, _, rfl, rfl⟩) (v := .int 0) rfl rfl ⟨_, rfl, ⟨by decide, by decide⟩⟩ dX11_undo_2 (fun f18 H locs h tf18 of18 hq ha_ hn_ hk_ => ?_)
  have k19 := hk_ 10 _ (by decide) k_u0_10
  have k20 := hk_ 6 _ (by decide) k_u0_6
  have k21 := hk_ 8 _ (by decide) k_u0_8
  have k22 := atp.tg hRbq hq hbq (by decide)
  have k23 := atp.tg hRkq hq hkq (by decide)
  have k24 := ha_
  refine lv_aload_n hx hb dX11_undo_5 rfl (lv_at hl 0 rfl) ?_
  refine t_getfd C h tf18 hu0 (by decide) wf_60 (v := .int ac) k19 fl_X11_155 dX11_undo_6 ?_
  refine lv_if_ne (tgt := 14) hx hb dX11_undo_9 (by decide) (fun c25 => ?_) (fun c25 => ?_)
  · have c26 : ac.toInt ≠ 0 := fun z_ => c25 (Int32.toInt_inj.mp z_)
    have i27 : iv ac 1 12 := iv_Nl c26 hac (by decide)
    refine lv_aload_n hx hb dX11_undo_14 rfl (lv_at hl 0 rfl) ?_
    refine lv_dup hx hb dX11_undo_15 rfl ?_
    refine t_getfd C h tf18 hu0 (by decide) wf_60 (v := .int ac) k19 fl_X11_155 dX11_undo_16 ?_
    refine lv_iconst (v := 1) hx hb dX11_undo_19 (by decide) ?_
    refine i_subk hx hb dX11_undo_20 i27 (k := 1) rfl (lo := 0) (hi := 11) (by decide) (fun z30 ez30 mz30 iz30 => ?_)
    refine t_put C h tf18 of18 hu0 (by decide) (by decide) (by decide) wf_60 fw_60 (k := 10) rfl flw_X11_155 (Or.inr ⟨_, _, _, rfl, rfl⟩) (v := .int z30) rfl rfl ⟨_, rfl, (iv_w iz30 (by decide))⟩ dX11_undo_21 (fun f31 H locs h tf31 of31 hq ha_ hn_ hk_ => ?_)
    have k33 := hk_ 6 _ (by decide) k20
    have k34 := hk_ 8 _ (by decide) k21
    have k35 := atp.tg k22 hq hbq (by decide)
    have k36 := atp.tg k23 hq hkq (by decide)
    have k37 := ha_
    refine lv_iconst (v := 0) hx hb dX11_undo_24 (by decide) ?_
    refine lv_istore_n (lv' := [(1, .int 0), (0, .ref u0)]) hx hb dX11_undo_25 rfl hl (by decide) rfl (fun ls hl => ?_)
    exact L26 82 ls f31 H locs 0 rb z30 (by decide) (lv_cons hl 1 rfl (lv_cons hl 0 rfl (lv_nil hl))) h tf31 of31 ⟨by decide, by decide⟩ iz30 k33 k34 k35 k36 k37 (show z30.toInt = ac.toInt - 1 by omega) (show ∀ k : Nat, rb k = if (k : Int) < 0 then rk (81 * (ac.toInt - 1) + k).toNat else rb k from (by
        intro k; (repeat' split) <;> first | rfl | (exfalso; omega) | (exact congrArg _ (by omega))))
  · have c28 : ac.toInt = 0 := congrArg Int32.toInt c25
    have i29 : iv ac 0 0 := iv_Q c28 hac (iv_k (x := 0) (k := 0) rfl) (by decide)
    refine lv_iconst (v := -1) hx hb dX11_undo_12 (by decide) ?_
    exact u_iret C h hr hQ (⟨⟨by decide, by decide⟩, tf18, of18, (by have n_ : (-1 : Int32).toInt = -1 := rfl; omega), ⟨ac, k19, (iv_w i29 (by decide)), (by omega)⟩, ⟨rb, k22, (fun k hk => by rw [if_pos (by omega)])⟩⟩) (Nat.le_of_ble_eq_true rfl) (Nat.le_of_ble_eq_true rfl) dX11_undo_13
abbrev rm_s_X11_imageX : Room := { frames := 0, cells := 0, slots := 0, locals := 0 }
set_option maxRecDepth 100000 in
set_option maxHeartbeats 4000000 in
theorem s_X11_imageX (l : Launch) (D : va_G) (G : Nat → Nat) (b0 : Nat) (τ : Nat → Nat) (f : hM) (t : TI G 9 τ f) (u0 : Nat) (hu0 : τ u0 = 60) (hi : Int32) (hhi : iv hi 0 1) (k_u0_11 : atp f u0 (fd 11 (.int hi))) (bq : Nat) (hbq : τ bq = 63) (k_u0_6 : atp f u0 (fd 6 (.ref bq))) (iq : Nat) (hiq : τ iq = 64) (k_u0_7 : atp f u0 (fd 7 (.ref iq))) (rb : Nat → Int32) (hRbq : atp f bq (eqc (.inl (G 1, 81, .inl rb)))) (ri : Nat → Int32) (hRiq : atp f iq (eqc (.inl (G 1, 81, .inl ri)))) : mI l yX11_image cX11_image 2 (.int) rm_s_X11_imageX D G b0 f [.ref u0] (fun r f1 => iv r 0 8 ∧ TI G 9 τ f1 ∧ Fr [60, 64, 60001, 60012] τ f f1 ∧ (r.toInt = (rb 80).toInt) ∧ (∃ hi1 : Int32, atp f1 u0 (fd 11 (.int hi1)) ∧ iv hi1 1 1 ∧ hi1.toInt = 1) ∧ (∃ ri1 : Nat → Int32, atp f1 iq (eqc (.inl (G 1, 81, .inl ri1))) ∧ (∀ k : Nat, k < 81 → ri1 k = rb k))) := by
  refine met2 (own := RX11) (by decide) rfl (Nat.le_of_ble_eq_true rfl) ?_
  intro p e s m args below meth c ls Q hQ C hr hini hl h
  have hl : lv_has ls 2 [(0, .ref u0)] := hl
  obtain ⟨hx, hb, hml, hown, hts, hE0, hlk⟩ := id C
  have o := Fr.rf [60, 64, 60001, 60012] τ f
  have L7 : ∀ (n7 : Nat) (ls : Array Slot) (f_7 : hM) (H : Heap) (locs : List Loc) (v7_1 : Int32) (g7_iq_R : Nat → Int32), 81 - v7_1.toInt < (n7 : Int) → lv_has ls 2 [(0, .ref u0), (1, .int v7_1)] → hw D b0 s.heap f_7 H locs → TI G 9 τ f_7 → Fr [60, 64, 60001, 60012] τ f f_7 → iv v7_1 0 81 → atp f_7 u0 (fd 11 (.int hi)) → atp f_7 u0 (fd 6 (.ref bq)) → atp f_7 u0 (fd 7 (.ref iq)) → atp f_7 bq (eqc (.inl (G 1, 81, .inl rb))) → atp f_7 iq (eqc (.inl (G 1, 81, .inl g7_iq_R))) → (∀ k : Nat, g7_iq_R k = if (k : Int) < v7_1.toInt then rb k else ri k) → W p l e rm_s_X11_imageX s m args below meth c H locs 0 0 Q (F0 m 7 ls []) := by
    intro n7
    induction n7 with
    | zero => intro ls f_7 H locs v7_1 g7_iq_R hm7 hl h t_7 o_7 iv7_1 k7_u0_11 k7_u0_6 k7_u0_7 k7_bq_R k7_iq_R hv7_0; exact absurd hm7 (by omega)
    | succ n7 ih7 =>
      intro ls f_7 H locs v7_1 g7_iq_R hm7 hl h t_7 o_7 iv7_1 k7_u0_11 k7_u0_6 k7_u0_7 k7_bq_R k7_iq_R hv7_0
      refine lv_iload_n hx hb dX11_image_7 rfl (lv_at hl 1 rfl) ?_
      refine lv_bipush (v := 81) hx hb dX11_image_8 (by decide) ?_
      refine lv_icmp_ge (tgt := 31) hx hb dX11_image_10 (by decide) (fun c1 => ?_) (fun c1 => ?_)
      · have c2 : 81 ≤ v7_1.toInt := Int32.le_iff_toInt_le.mp c1
        have i3 : iv v7_1 81 81 := iv_Er c2 (iv_k (x := 81) (k := 81) rfl) iv7_1 (by decide)
        refine lv_aload_n hx hb dX11_image_31 rfl (lv_at hl 0 rfl) ?_
        refine lv_iconst (v := 1) hx hb dX11_image_32 (by decide) ?_
        refine t_put C h t_7 o_7 hu0 (by decide) (by decide) (by decide) wf_60 fw_60 (k := 11) rfl flw_X11_437 (Or.inr ⟨_, _, _, rfl, rfl⟩) (v := .int 1) rfl rfl ⟨_, rfl, ⟨by decide, by decide⟩⟩ dX11_image_33 (fun f6 H locs h tf6 of6 hq ha_ hn_ hk_ => ?_)
        have k8 := hk_ 6 _ (by decide) k7_u0_6
        have k9 := hk_ 7 _ (by decide) k7_u0_7
        have k10 := atp.tg k7_bq_R hq hbq (by decide)
        have k11 := atp.tg k7_iq_R hq hiq (by decide)
        have k12 := ha_
        refine lv_aload_n hx hb dX11_image_36 rfl (lv_at hl 0 rfl) ?_
        refine t_getfd C h tf6 hu0 (by decide) wf_60 (v := .ref bq) k8 fl_X11_17 dX11_image_37 ?_
        refine lv_bipush (v := 80) hx hb dX11_image_40 (by decide) ?_
        refine e_bk80 C h tf6 hbq (by decide) wf_63 k10 dX11_image_42 (fun z13 ez13 iz13 => ?_)
        have mz13 := congrArg Int32.toInt ez13
        exact u_iret C h hr hQ (⟨iz13, tf6, of6, (by omega), ⟨1, k12, ⟨by decide, by decide⟩, (by decide)⟩, ⟨g7_iq_R, k11, (fun k hk => by rw [hv7_0 k]; (repeat' split) <;> first | rfl | (exfalso; omega) | (exact congrArg _ (by omega)))⟩⟩) (Nat.le_of_ble_eq_true rfl) (Nat.le_of_ble_eq_true rfl) dX11_image_43
      · have c4 : v7_1.toInt < 81 := Int32.lt_iff_toInt_lt.mp (iv_nle c1)
        have i5 : iv v7_1 0 80 := iv_Ll c4 iv7_1 (iv_k (x := 81) (k := 81) rfl) (by decide)
        refine lv_aload_n hx hb dX11_image_13 rfl (lv_at hl 0 rfl) ?_
        refine t_getfd C h t_7 hu0 (by decide) wf_60 (v := .ref iq) k7_u0_7 fl_X11_20 dX11_image_14 ?_
        refine lv_iload_n hx hb dX11_image_17 rfl (lv_at hl 1 rfl) ?_
        refine lv_aload_n hx hb dX11_image_18 rfl (lv_at hl 0 rfl) ?_
        refine t_getfd C h t_7 hu0 (by decide) wf_60 (v := .ref bq) k7_u0_6 fl_X11_17 dX11_image_19 ?_
        refine lv_iload_n hx hb dX11_image_22 rfl (lv_at hl 1 rfl) ?_
        refine e_bkA C h t_7 hbq (by decide) wf_63 k7_bq_R i5 (by decide) (hi := 9) (by decide) dX11_image_23 (fun z14 ez14 iz14 => ?_)
        have mz14 := congrArg Int32.toInt ez14
        refine e_iast C h t_7 o_7 hiq (by decide) (by decide) wf_64 fw_64 k7_iq_R (iv_in i5 (by decide)) iz14 dX11_image_24 (fun R17 f15 erR17 H locs h tf15 of15 hq hn_ k16 => ?_)
        have k18 := atp.tg k7_u0_11 hq hu0 (by decide)
        have k19 := atp.tg k7_u0_6 hq hu0 (by decide)
        have k20 := atp.tg k7_u0_7 hq hu0 (by decide)
        have k21 := atp.tg k7_bq_R hq hbq (by decide)
        refine i_inc hx hb dX11_image_25 hl (k := 1) rfl i5 rfl (lo := 1) (hi := 81) (by decide) (by decide) (lv' := fun v => [(1, .int v), (0, .ref u0)]) (fun _ => rfl) (fun z23 ls ez23 mz23 iz23 hl => ?_)
        refine lv_goto (tgt := 7) hx hb dX11_image_28 (by decide) ?_
        exact ih7 ls f15 H locs z23 R17 (show 81 - z23.toInt < _ by omega) (lv_cons hl 1 rfl (lv_cons hl 0 rfl (lv_nil hl))) h tf15 of15 (iv_w iz23 (by decide)) k18 k19 k20 k21 k16 (show ∀ k : Nat, R17 k = if (k : Int) < z23.toInt then rb k else ri k from (by
            intro k; rw [erR17]; by_cases q_ : k = v7_1.toInt.toNat
            · rw [upd_at q_, ez14]; (repeat' split) <;> first | rfl | (exfalso; omega) | (exact congrArg _ (by omega))
            · rw [upd_off q_, hv7_0 k]; (repeat' split) <;> first | rfl | (exfalso; omega) | (exact congrArg _ (by omega))))
  refine lv_aload_n hx hb dX11_image_0 rfl (lv_at hl 0 rfl) ?_
  refine lv_iconst (v := 0) hx hb dX11_image_1 (by decide) ?_
  refine t_put C h t o hu0 (by decide) (by decide) (by decide) wf_60 fw_60 (k := 0) rfl flw_X11_75 (Or.inr ⟨_, _, _, rfl, rfl⟩) (v := .int 0) rfl rfl ⟨_, rfl, ⟨by decide, by decide⟩⟩ dX11_image_2 (fun f24 H locs h tf24 of24 hq ha_ hn_ hk_ => ?_)
  have k25 := hk_ 11 _ (by decide) k_u0_11
  have k26 := hk_ 6 _ (by decide) k_u0_6
  have k27 := hk_ 7 _ (by decide) k_u0_7
  have k28 := atp.tg hRbq hq hbq (by decide)
  have k29 := atp.tg hRiq hq hiq (by decide)
  have k30 := ha_
  refine lv_iconst (v := 0) hx hb dX11_image_5 (by decide) ?_
  refine lv_istore_n (lv' := [(1, .int 0), (0, .ref u0)]) hx hb dX11_image_6 rfl hl (by decide) rfl (fun ls hl => ?_)
  exact L7 82 ls f24 H locs 0 ri (by decide) (lv_cons hl 1 rfl (lv_cons hl 0 rfl (lv_nil hl))) h tf24 of24 ⟨by decide, by decide⟩ k25 k26 k27 k28 k29 (show ∀ k : Nat, ri k = if (k : Int) < 0 then rb k else ri k from (by
      intro k; (repeat' split) <;> first | rfl | (exfalso; omega) | (exact congrArg _ (by omega))))
abbrev rm_s_X11_backX : Room := { frames := 0, cells := 0, slots := 0, locals := 0 }
set_option maxRecDepth 100000 in
set_option maxHeartbeats 4000000 in
theorem s_X11_backX (l : Launch) (D : va_G) (G : Nat → Nat) (b0 : Nat) (τ : Nat → Nat) (f : hM) (t : TI G 9 τ f) (u0 : Nat) (hu0 : τ u0 = 60) (ac : Int32) (hac : iv ac 0 12) (k_u0_10 : atp f u0 (fd 10 (.int ac))) (hi : Int32) (hhi : iv hi 0 1) (k_u0_11 : atp f u0 (fd 11 (.int hi))) (bq : Nat) (hbq : τ bq = 63) (k_u0_6 : atp f u0 (fd 6 (.ref bq))) (iq : Nat) (hiq : τ iq = 64) (k_u0_7 : atp f u0 (fd 7 (.ref iq))) (rb : Nat → Int32) (hRbq : atp f bq (eqc (.inl (G 1, 81, .inl rb)))) (ri : Nat → Int32) (hRiq : atp f iq (eqc (.inl (G 1, 81, .inl ri)))) (hr0 : hi.toInt ≠ 0 → (ri 80).toInt ≤ 8) : mI l yX11_back cX11_back 2 (.int) rm_s_X11_backX D G b0 f [.ref u0] (fun r f1 => iv r (-1) 8 ∧ TI G 9 τ f1 ∧ Fr [60, 63, 60001, 60011] τ f f1 ∧ ((hi.toInt = 0 → r.toInt = -1) ∧ (hi.toInt ≠ 0 → r.toInt = (ri 80).toInt)) ∧ (∃ ac1 : Int32, atp f1 u0 (fd 10 (.int ac1)) ∧ iv ac1 0 12 ∧ (hi.toInt = 0 → ac1.toInt = ac.toInt) ∧ (hi.toInt ≠ 0 → ac1.toInt = 0)) ∧ (∃ rb1 : Nat → Int32, atp f1 bq (eqc (.inl (G 1, 81, .inl rb1))) ∧ (∀ k : Nat, k < 81 → rb1 k = if hi.toInt = 0 then rb k else ri k))) := by
  refine met2 (own := RX11) (by decide) rfl (Nat.le_of_ble_eq_true rfl) ?_
  intro p e s m args below meth c ls Q hQ C hr hini hl h
  have hl : lv_has ls 2 [(0, .ref u0)] := hl
  obtain ⟨hx, hb, hml, hown, hts, hE0, hlk⟩ := id C
  have o := Fr.rf [60, 63, 60001, 60011] τ f
  have L16 : ∀ (n16 : Nat) (ls : Array Slot) (f_16 : hM) (H : Heap) (locs : List Loc) (v16_1 : Int32) (g16_bq_R : Nat → Int32), 81 - v16_1.toInt < (n16 : Int) → lv_has ls 2 [(0, .ref u0), (1, .int v16_1)] → hw D b0 s.heap f_16 H locs → TI G 9 τ f_16 → Fr [60, 63, 60001, 60011] τ f f_16 → iv v16_1 0 81 → iv hi 1 1 → atp f_16 u0 (fd 10 (.int ac)) → atp f_16 u0 (fd 11 (.int hi)) → atp f_16 u0 (fd 6 (.ref bq)) → atp f_16 u0 (fd 7 (.ref iq)) → atp f_16 bq (eqc (.inl (G 1, 81, .inl g16_bq_R))) → atp f_16 iq (eqc (.inl (G 1, 81, .inl ri))) → hi.toInt ≠ 0 → (∀ k : Nat, g16_bq_R k = if (k : Int) < v16_1.toInt then ri k else rb k) → W p l e rm_s_X11_backX s m args below meth c H locs 0 0 Q (F0 m 16 ls []) := by
    intro n16
    induction n16 with
    | zero => intro ls f_16 H locs v16_1 g16_bq_R hm16 hl h t_16 o_16 iv16_1 jg16_u0_11 k16_u0_10 k16_u0_11 k16_u0_6 k16_u0_7 k16_bq_R k16_iq_R hv16_0 hv16_1; exact absurd hm16 (by omega)
    | succ n16 ih16 =>
      intro ls f_16 H locs v16_1 g16_bq_R hm16 hl h t_16 o_16 iv16_1 jg16_u0_11 k16_u0_10 k16_u0_11 k16_u0_6 k16_u0_7 k16_bq_R k16_iq_R hv16_0 hv16_1
      refine lv_iload_n hx hb dX11_back_16 rfl (lv_at hl 1 rfl) ?_
      refine lv_bipush (v := 81) hx hb dX11_back_17 (by decide) ?_
      refine lv_icmp_ge (tgt := 40) hx hb dX11_back_19 (by decide) (fun c1 => ?_) (fun c1 => ?_)
      · have c2 : 81 ≤ v16_1.toInt := Int32.le_iff_toInt_le.mp c1
        have i3 : iv v16_1 81 81 := iv_Er c2 (iv_k (x := 81) (k := 81) rfl) iv16_1 (by decide)
        refine lv_aload_n hx hb dX11_back_40 rfl (lv_at hl 0 rfl) ?_
        refine lv_iconst (v := 0) hx hb dX11_back_41 (by decide) ?_
        refine t_put C h t_16 o_16 hu0 (by decide) (by decide) (by decide) wf_60 fw_60 (k := 10) rfl flw_X11_155 (Or.inr ⟨_, _, _, rfl, rfl⟩) (v := .int 0) rfl rfl ⟨_, rfl, ⟨by decide, by decide⟩⟩ dX11_back_42 (fun f6 H locs h tf6 of6 hq ha_ hn_ hk_ => ?_)
        have k8 := hk_ 11 _ (by decide) k16_u0_11
        have k9 := hk_ 6 _ (by decide) k16_u0_6
        have k10 := hk_ 7 _ (by decide) k16_u0_7
        have k11 := atp.tg k16_bq_R hq hbq (by decide)
        have k12 := atp.tg k16_iq_R hq hiq (by decide)
        have k13 := ha_
        refine lv_aload_n hx hb dX11_back_45 rfl (lv_at hl 0 rfl) ?_
        refine t_getfd C h tf6 hu0 (by decide) wf_60 (v := .ref bq) k9 fl_X11_17 dX11_back_46 ?_
        refine lv_bipush (v := 80) hx hb dX11_back_49 (by decide) ?_
        refine e_bk80 C h tf6 hbq (by decide) wf_63 k11 dX11_back_51 (fun z14 ez14 iz14 => ?_)
        have mz14 := congrArg Int32.toInt ez14
        exact u_iret C h hr hQ (⟨(iv_w iz14 (by decide)), tf6, of6, (by have h_ : (g16_bq_R 80).toInt = (ri 80).toInt := (by rw [hv16_1 80, if_pos (by omega)]); omega), ⟨0, k13, ⟨by decide, by decide⟩, (by have n_ : (0 : Int32).toInt = 0 := rfl; omega)⟩, ⟨g16_bq_R, k11, (fun k hk => by rw [hv16_1 k]; (repeat' split) <;> first | rfl | (exfalso; omega) | (exact congrArg _ (by omega)))⟩⟩) (Nat.le_of_ble_eq_true rfl) (Nat.le_of_ble_eq_true rfl) dX11_back_52
      · have c4 : v16_1.toInt < 81 := Int32.lt_iff_toInt_lt.mp (iv_nle c1)
        have i5 : iv v16_1 0 80 := iv_Ll c4 iv16_1 (iv_k (x := 81) (k := 81) rfl) (by decide)
        refine lv_aload_n hx hb dX11_back_22 rfl (lv_at hl 0 rfl) ?_
        refine t_getfd C h t_16 hu0 (by decide) wf_60 (v := .ref bq) k16_u0_6 fl_X11_17 dX11_back_23 ?_
        refine lv_iload_n hx hb dX11_back_26 rfl (lv_at hl 1 rfl) ?_
        refine lv_aload_n hx hb dX11_back_27 rfl (lv_at hl 0 rfl) ?_
        refine t_getfd C h t_16 hu0 (by decide) wf_60 (v := .ref iq) k16_u0_7 fl_X11_20 dX11_back_28 ?_
        refine lv_iload_n hx hb dX11_back_31 rfl (lv_at hl 1 rfl) ?_
        refine e_iald C h t_16 hiq (by decide) wf_64 k16_iq_R (iv_in i5 (by decide)) dX11_back_32 (fun z15 ez15 iz15 => ?_)
        have mz15 := congrArg Int32.toInt ez15
        refine e_bkst C h t_16 o_16 hbq (by decide) (by decide) wf_63 fw_63 k16_bq_R (bk_or i5 (by omega) ⟨iz15, fun z_ => by rw [ez15, show v16_1.toInt.toNat = 80 by omega]; exact hr0 (by omega)⟩) dX11_back_33 (fun R18 f16 erR18 H locs h tf16 of16 hq hn_ k17 => ?_)
        have k19 := atp.tg k16_u0_10 hq hu0 (by decide)
        have k20 := atp.tg k16_u0_11 hq hu0 (by decide)
        have k21 := atp.tg k16_u0_6 hq hu0 (by decide)
        have k22 := atp.tg k16_u0_7 hq hu0 (by decide)
        have k24 := atp.tg k16_iq_R hq hiq (by decide)
        refine i_inc hx hb dX11_back_34 hl (k := 1) rfl i5 rfl (lo := 1) (hi := 81) (by decide) (by decide) (lv' := fun v => [(1, .int v), (0, .ref u0)]) (fun _ => rfl) (fun z25 ls ez25 mz25 iz25 hl => ?_)
        refine lv_goto (tgt := 16) hx hb dX11_back_37 (by decide) ?_
        exact ih16 ls f16 H locs z25 R18 (show 81 - z25.toInt < _ by omega) (lv_cons hl 1 rfl (lv_cons hl 0 rfl (lv_nil hl))) h tf16 of16 (iv_w iz25 (by decide)) jg16_u0_11 k19 k20 k21 k22 k17 k24 (show hi.toInt ≠ 0 by omega) (show ∀ k : Nat, R18 k = if (k : Int) < z25.toInt then ri k else rb k from (by
            intro k; rw [erR18]; by_cases q_ : k = v16_1.toInt.toNat
            · rw [upd_at q_, ez15]; (repeat' split) <;> first | rfl | (exfalso; omega) | (exact congrArg _ (by omega))
            · rw [upd_off q_, hv16_1 k]; (repeat' split) <;> first | rfl | (exfalso; omega) | (exact congrArg _ (by omega))))
  refine lv_aload_n hx hb dX11_back_0 rfl (lv_at hl 0 rfl) ?_
  refine lv_iconst (v := 0) hx hb dX11_back_1 (by decide) ?_
  refine t_put C h t o hu0 (by decide) (by decide) (by decide) wf_60 fw_60 (k := 0) rfl flw_X11_75 (Or.inr ⟨_, _, _, rfl, rfl⟩) (v := .int 0) rfl rfl ⟨_, rfl, ⟨by decide, by decide⟩⟩ dX11_back_2 (fun f26 H locs h tf26 of26 hq ha_ hn_ hk_ => ?_)
  have k27 := hk_ 10 _ (by decide) k_u0_10
  have k28 := hk_ 11 _ (by decide) k_u0_11
  have k29 := hk_ 6 _ (by decide) k_u0_6
  have k30 := hk_ 7 _ (by decide) k_u0_7
  have k31 := atp.tg hRbq hq hbq (by decide)
  have k32 := atp.tg hRiq hq hiq (by decide)
  have k33 := ha_
  refine lv_aload_n hx hb dX11_back_5 rfl (lv_at hl 0 rfl) ?_
  refine t_getfd C h tf26 hu0 (by decide) wf_60 (v := .int hi) k28 fl_X11_437 dX11_back_6 ?_
  refine lv_if_ne (tgt := 14) hx hb dX11_back_9 (by decide) (fun c34 => ?_) (fun c34 => ?_)
  · have c35 : hi.toInt ≠ 0 := fun z_ => c34 (Int32.toInt_inj.mp z_)
    have i36 : iv hi 1 1 := iv_Nl c35 hhi (by decide)
    refine lv_iconst (v := 0) hx hb dX11_back_14 (by decide) ?_
    refine lv_istore_n (lv' := [(1, .int 0), (0, .ref u0)]) hx hb dX11_back_15 rfl hl (by decide) rfl (fun ls hl => ?_)
    exact L16 82 ls f26 H locs 0 rb (by decide) (lv_cons hl 1 rfl (lv_cons hl 0 rfl (lv_nil hl))) h tf26 of26 ⟨by decide, by decide⟩ i36 k27 k28 k29 k30 k31 k32 (show hi.toInt ≠ 0 by omega) (show ∀ k : Nat, rb k = if (k : Int) < 0 then ri k else rb k from (by
        intro k; (repeat' split) <;> first | rfl | (exfalso; omega) | (exact congrArg _ (by omega))))
  · have c37 : hi.toInt = 0 := congrArg Int32.toInt c34
    have i38 : iv hi 0 0 := iv_Q c37 hhi (iv_k (x := 0) (k := 0) rfl) (by decide)
    refine lv_iconst (v := -1) hx hb dX11_back_12 (by decide) ?_
    exact u_iret C h hr hQ (⟨⟨by decide, by decide⟩, tf26, of26, (by have n_ : (-1 : Int32).toInt = -1 := rfl; omega), ⟨ac, k27, hac, (by have n_ : (0 : Int32).toInt = 0 := rfl; omega)⟩, ⟨rb, k31, (fun k hk => by rw [if_pos (by omega)])⟩⟩) (Nat.le_of_ble_eq_true rfl) (Nat.le_of_ble_eq_true rfl) dX11_back_13
