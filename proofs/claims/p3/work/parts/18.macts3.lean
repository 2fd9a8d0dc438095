theorem dX11_scale_0 : decode cX11_scale 0 = .ok (.aload_n 0, 1) := by decide +kernel
theorem dX11_scale_1 : decode cX11_scale 1 = .ok (.iconst 0, 1) := by decide +kernel
theorem dX11_scale_2 : decode cX11_scale 2 = .ok (.putfield 75, 3) := by decide +kernel
theorem dX11_scale_5 : decode cX11_scale 5 = .ok (.aload_n 0, 1) := by decide +kernel
theorem dX11_scale_6 : decode cX11_scale 6 = .ok (.iload_n 1, 1) := by decide +kernel
theorem dX11_scale_7 : decode cX11_scale 7 = .ok (.invokevirtual 171, 3) := by decide +kernel
theorem dX11_scale_10 : decode cX11_scale 10 = .ok (.ifCond .ne 9, 3) := by decide +kernel
theorem dX11_scale_19 : decode cX11_scale 19 = .ok (.iload_n 2, 1) := by decide +kernel
theorem dX11_scale_20 : decode cX11_scale 20 = .ok (.i2l, 1) := by decide +kernel
theorem dX11_scale_21 : decode cX11_scale 21 = .ok (.ldc2_w 179, 3) := by decide +kernel
theorem dX11_scale_24 : decode cX11_scale 24 = .ok (.ldc2_w 181, 3) := by decide +kernel
theorem w_1648 : Cond.constantLong "QuarterWalksModel" 181 9 ∈ wAll := wIn 1648 (by decide +kernel) (by decide +kernel)
theorem dX11_scale_27 : decode cX11_scale 27 = .ok (.invokestatic 158, 3) := by decide +kernel
theorem dX11_scale_30 : decode cX11_scale 30 = .ok (.ifCond .ne 9, 3) := by decide +kernel
theorem dX11_scale_39 : decode cX11_scale 39 = .ok (.iconst 0, 1) := by decide +kernel
theorem dX11_scale_40 : decode cX11_scale 40 = .ok (.istore_n 3, 1) := by decide +kernel
theorem dX11_scale_33 : decode cX11_scale 33 = .ok (.aload_n 0, 1) := by decide +kernel
theorem dX11_scale_34 : decode cX11_scale 34 = .ok (.iconst 1, 1) := by decide +kernel
theorem dX11_scale_35 : decode cX11_scale 35 = .ok (.invokevirtual 165, 3) := by decide +kernel
theorem dX11_scale_13 : decode cX11_scale 13 = .ok (.aload_n 0, 1) := by decide +kernel
theorem dX11_scale_14 : decode cX11_scale 14 = .ok (.iconst 0, 1) := by decide +kernel
theorem dX11_scale_15 : decode cX11_scale 15 = .ok (.invokevirtual 165, 3) := by decide +kernel
theorem dX11_scale_41 : decode cX11_scale 41 = .ok (.iload_n 3, 1) := by decide +kernel
theorem dX11_scale_42 : decode cX11_scale 42 = .ok (.bipush 8, 2) := by decide +kernel
theorem dX11_scale_44 : decode cX11_scale 44 = .ok (.if_icmp .ge 28, 3) := by decide +kernel
theorem dX11_scale_47 : decode cX11_scale 47 = .ok (.aload_n 0, 1) := by decide +kernel
theorem dX11_scale_48 : decode cX11_scale 48 = .ok (.iload_n 1, 1) := by decide +kernel
theorem dX11_scale_49 : decode cX11_scale 49 = .ok (.iload_n 3, 1) := by decide +kernel
theorem dX11_scale_50 : decode cX11_scale 50 = .ok (.invokevirtual 175, 3) := by decide +kernel
theorem dX11_scale_53 : decode cX11_scale 53 = .ok (.iload_n 2, 1) := by decide +kernel
theorem dX11_scale_54 : decode cX11_scale 54 = .ok (.imul, 1) := by decide +kernel
theorem dX11_scale_55 : decode cX11_scale 55 = .ok (.bipush 9, 2) := by decide +kernel
theorem dX11_scale_57 : decode cX11_scale 57 = .ok (.if_icmp .le 9, 3) := by decide +kernel
theorem dX11_scale_66 : decode cX11_scale 66 = .ok (.iinc 3 1, 3) := by decide +kernel
theorem dX11_scale_69 : decode cX11_scale 69 = .ok (.goto (-28), 3) := by decide +kernel
theorem dX11_scale_60 : decode cX11_scale 60 = .ok (.aload_n 0, 1) := by decide +kernel
theorem dX11_scale_61 : decode cX11_scale 61 = .ok (.iconst 1, 1) := by decide +kernel
theorem dX11_scale_62 : decode cX11_scale 62 = .ok (.invokevirtual 165, 3) := by decide +kernel
theorem dX11_scale_72 : decode cX11_scale 72 = .ok (.aload_n 0, 1) := by decide +kernel
theorem dX11_scale_73 : decode cX11_scale 73 = .ok (.invokevirtual 162, 3) := by decide +kernel
theorem dX11_scale_76 : decode cX11_scale 76 = .ok (.iconst 0, 1) := by decide +kernel
theorem dX11_scale_77 : decode cX11_scale 77 = .ok (.istore_n 3, 1) := by decide +kernel
theorem dX11_scale_78 : decode cX11_scale 78 = .ok (.iload_n 3, 1) := by decide +kernel
theorem dX11_scale_79 : decode cX11_scale 79 = .ok (.bipush 8, 2) := by decide +kernel
theorem dX11_scale_81 : decode cX11_scale 81 = .ok (.if_icmp .ge 24, 3) := by decide +kernel
theorem dX11_scale_84 : decode cX11_scale 84 = .ok (.aload_n 0, 1) := by decide +kernel
theorem dX11_scale_85 : decode cX11_scale 85 = .ok (.getfield 17, 3) := by decide +kernel
theorem dX11_scale_88 : decode cX11_scale 88 = .ok (.bipush 10, 2) := by decide +kernel
theorem dX11_scale_90 : decode cX11_scale 90 = .ok (.iload_n 1, 1) := by decide +kernel
theorem dX11_scale_91 : decode cX11_scale 91 = .ok (.imul, 1) := by decide +kernel
theorem dX11_scale_92 : decode cX11_scale 92 = .ok (.iload_n 3, 1) := by decide +kernel
theorem dX11_scale_93 : decode cX11_scale 93 = .ok (.iadd, 1) := by decide +kernel
theorem dX11_scale_94 : decode cX11_scale 94 = .ok (.dup2, 1) := by decide +kernel
theorem dX11_scale_95 : decode cX11_scale 95 = .ok (.iaload, 1) := by decide +kernel
theorem dX11_scale_96 : decode cX11_scale 96 = .ok (.iload_n 2, 1) := by decide +kernel
theorem dX11_scale_97 : decode cX11_scale 97 = .ok (.imul, 1) := by decide +kernel
theorem dX11_scale_98 : decode cX11_scale 98 = .ok (.iastore, 1) := by decide +kernel
theorem dX11_scale_99 : decode cX11_scale 99 = .ok (.iinc 3 1, 3) := by decide +kernel
theorem dX11_scale_102 : decode cX11_scale 102 = .ok (.goto (-24), 3) := by decide +kernel
theorem dX11_scale_105 : decode cX11_scale 105 = .ok (.aload_n 0, 1) := by decide +kernel
theorem dX11_scale_106 : decode cX11_scale 106 = .ok (.iload_n 1, 1) := by decide +kernel
theorem dX11_scale_107 : decode cX11_scale 107 = .ok (.invokevirtual 183, 3) := by decide +kernel
theorem dX11_scale_110 : decode cX11_scale 110 = .ok (.ireturn, 1) := by decide +kernel
theorem dX11_scale_65 : decode cX11_scale 65 = .ok (.ireturn, 1) := by decide +kernel
theorem dX11_scale_38 : decode cX11_scale 38 = .ok (.ireturn, 1) := by decide +kernel
theorem dX11_scale_18 : decode cX11_scale 18 = .ok (.ireturn, 1) := by decide +kernel
theorem dX11_weigh_0 : decode cX11_weigh 0 = .ok (.aload_n 0, 1) := by decide +kernel
theorem dX11_weigh_1 : decode cX11_weigh 1 = .ok (.iconst 0, 1) := by decide +kernel
theorem dX11_weigh_2 : decode cX11_weigh 2 = .ok (.putfield 75, 3) := by decide +kernel
theorem dX11_weigh_5 : decode cX11_weigh 5 = .ok (.aload_n 0, 1) := by decide +kernel
theorem dX11_weigh_6 : decode cX11_weigh 6 = .ok (.iload_n 1, 1) := by decide +kernel
theorem dX11_weigh_7 : decode cX11_weigh 7 = .ok (.invokevirtual 171, 3) := by decide +kernel
theorem dX11_weigh_10 : decode cX11_weigh 10 = .ok (.ifCond .ne 9, 3) := by decide +kernel
theorem dX11_weigh_19 : decode cX11_weigh 19 = .ok (.iload_n 2, 1) := by decide +kernel
theorem dX11_weigh_20 : decode cX11_weigh 20 = .ok (.i2l, 1) := by decide +kernel
theorem dX11_weigh_21 : decode cX11_weigh 21 = .ok (.lconst 0, 1) := by decide +kernel
theorem dX11_weigh_22 : decode cX11_weigh 22 = .ok (.ldc2_w 186, 3) := by decide +kernel
theorem w_1657 : Cond.constantLong "QuarterWalksModel" 186 7 ∈ wAll := wIn 1657 (by decide +kernel) (by decide +kernel)
theorem dX11_weigh_25 : decode cX11_weigh 25 = .ok (.invokestatic 158, 3) := by decide +kernel
theorem dX11_weigh_28 : decode cX11_weigh 28 = .ok (.ifCond .eq 37, 3) := by decide +kernel
theorem dX11_weigh_65 : decode cX11_weigh 65 = .ok (.aload_n 0, 1) := by decide +kernel
theorem dX11_weigh_66 : decode cX11_weigh 66 = .ok (.iconst 1, 1) := by decide +kernel
theorem dX11_weigh_67 : decode cX11_weigh 67 = .ok (.invokevirtual 165, 3) := by decide +kernel
theorem dX11_weigh_31 : decode cX11_weigh 31 = .ok (.iload_n 3, 1) := by decide +kernel
theorem dX11_weigh_32 : decode cX11_weigh 32 = .ok (.i2l, 1) := by decide +kernel
theorem dX11_weigh_33 : decode cX11_weigh 33 = .ok (.lconst 0, 1) := by decide +kernel
theorem dX11_weigh_34 : decode cX11_weigh 34 = .ok (.ldc2_w 181, 3) := by decide +kernel
theorem dX11_weigh_37 : decode cX11_weigh 37 = .ok (.invokestatic 158, 3) := by decide +kernel
theorem dX11_weigh_40 : decode cX11_weigh 40 = .ok (.ifCond .eq 25, 3) := by decide +kernel
theorem dX11_weigh_43 : decode cX11_weigh 43 = .ok (.iload_n 3, 1) := by decide +kernel
theorem dX11_weigh_44 : decode cX11_weigh 44 = .ok (.ifCond .ne 27, 3) := by decide +kernel
theorem dX11_weigh_71 : decode cX11_weigh 71 = .ok (.aload_n 0, 1) := by decide +kernel
theorem dX11_weigh_72 : decode cX11_weigh 72 = .ok (.iload_n 1, 1) := by decide +kernel
theorem dX11_weigh_73 : decode cX11_weigh 73 = .ok (.iload_n 2, 1) := by decide +kernel
theorem dX11_weigh_74 : decode cX11_weigh 74 = .ok (.invokevirtual 175, 3) := by decide +kernel
theorem dX11_weigh_77 : decode cX11_weigh 77 = .ok (.istore 4, 2) := by decide +kernel
theorem dX11_weigh_79 : decode cX11_weigh 79 = .ok (.iload 4, 2) := by decide +kernel
theorem dX11_weigh_81 : decode cX11_weigh 81 = .ok (.iload_n 3, 1) := by decide +kernel
theorem dX11_weigh_82 : decode cX11_weigh 82 = .ok (.if_icmp .ne 9, 3) := by decide +kernel
theorem dX11_weigh_91 : decode cX11_weigh 91 = .ok (.aload_n 0, 1) := by decide +kernel
theorem dX11_weigh_92 : decode cX11_weigh 92 = .ok (.invokevirtual 162, 3) := by decide +kernel
theorem dX11_weigh_95 : decode cX11_weigh 95 = .ok (.aload_n 0, 1) := by decide +kernel
theorem dX11_weigh_96 : decode cX11_weigh 96 = .ok (.getfield 17, 3) := by decide +kernel
theorem dX11_weigh_99 : decode cX11_weigh 99 = .ok (.bipush 10, 2) := by decide +kernel
theorem dX11_weigh_101 : decode cX11_weigh 101 = .ok (.iload_n 1, 1) := by decide +kernel
theorem dX11_weigh_102 : decode cX11_weigh 102 = .ok (.imul, 1) := by decide +kernel
theorem dX11_weigh_103 : decode cX11_weigh 103 = .ok (.iload_n 2, 1) := by decide +kernel
theorem dX11_weigh_104 : decode cX11_weigh 104 = .ok (.iadd, 1) := by decide +kernel
theorem dX11_weigh_105 : decode cX11_weigh 105 = .ok (.iload_n 3, 1) := by decide +kernel
theorem dX11_weigh_106 : decode cX11_weigh 106 = .ok (.iastore, 1) := by decide +kernel
theorem dX11_weigh_107 : decode cX11_weigh 107 = .ok (.iload 4, 2) := by decide +kernel
theorem dX11_weigh_85 : decode cX11_weigh 85 = .ok (.aload_n 0, 1) := by decide +kernel
theorem dX11_weigh_86 : decode cX11_weigh 86 = .ok (.iconst 3, 1) := by decide +kernel
theorem dX11_weigh_87 : decode cX11_weigh 87 = .ok (.invokevirtual 165, 3) := by decide +kernel
theorem dX11_weigh_47 : decode cX11_weigh 47 = .ok (.aload_n 0, 1) := by decide +kernel
theorem dX11_weigh_48 : decode cX11_weigh 48 = .ok (.iload_n 1, 1) := by decide +kernel
theorem dX11_weigh_49 : decode cX11_weigh 49 = .ok (.iload_n 2, 1) := by decide +kernel
theorem dX11_weigh_50 : decode cX11_weigh 50 = .ok (.invokevirtual 175, 3) := by decide +kernel
theorem dX11_weigh_53 : decode cX11_weigh 53 = .ok (.ifCond .le 18, 3) := by decide +kernel
theorem dX11_weigh_56 : decode cX11_weigh 56 = .ok (.aload_n 0, 1) := by decide +kernel
theorem dX11_weigh_57 : decode cX11_weigh 57 = .ok (.iload_n 1, 1) := by decide +kernel
theorem dX11_weigh_58 : decode cX11_weigh 58 = .ok (.invokevirtual 188, 3) := by decide +kernel
theorem dX11_weigh_61 : decode cX11_weigh 61 = .ok (.iconst 1, 1) := by decide +kernel
theorem dX11_weigh_62 : decode cX11_weigh 62 = .ok (.if_icmp .ne 9, 3) := by decide +kernel
theorem dX11_weigh_13 : decode cX11_weigh 13 = .ok (.aload_n 0, 1) := by decide +kernel
theorem dX11_weigh_14 : decode cX11_weigh 14 = .ok (.iconst 0, 1) := by decide +kernel
theorem dX11_weigh_15 : decode cX11_weigh 15 = .ok (.invokevirtual 165, 3) := by decide +kernel
theorem dX11_weigh_70 : decode cX11_weigh 70 = .ok (.ireturn, 1) := by decide +kernel
theorem dX11_weigh_109 : decode cX11_weigh 109 = .ok (.ireturn, 1) := by decide +kernel
theorem dX11_weigh_90 : decode cX11_weigh 90 = .ok (.ireturn, 1) := by decide +kernel
theorem dX11_weigh_18 : decode cX11_weigh 18 = .ok (.ireturn, 1) := by decide +kernel
theorem dX11_start_0 : decode cX11_start 0 = .ok (.aload_n 0, 1) := by decide +kernel
theorem dX11_start_1 : decode cX11_start 1 = .ok (.iconst 0, 1) := by decide +kernel
theorem dX11_start_2 : decode cX11_start 2 = .ok (.putfield 75, 3) := by decide +kernel
theorem dX11_start_5 : decode cX11_start 5 = .ok (.aload_n 0, 1) := by decide +kernel
theorem dX11_start_6 : decode cX11_start 6 = .ok (.iload_n 1, 1) := by decide +kernel
theorem dX11_start_7 : decode cX11_start 7 = .ok (.invokevirtual 171, 3) := by decide +kernel
theorem dX11_start_10 : decode cX11_start 10 = .ok (.ifCond .ne 9, 3) := by decide +kernel
theorem dX11_start_19 : decode cX11_start 19 = .ok (.iload_n 2, 1) := by decide +kernel
theorem dX11_start_20 : decode cX11_start 20 = .ok (.i2l, 1) := by decide +kernel
theorem dX11_start_21 : decode cX11_start 21 = .ok (.lconst 0, 1) := by decide +kernel
theorem dX11_start_22 : decode cX11_start 22 = .ok (.ldc2_w 181, 3) := by decide +kernel
theorem dX11_start_25 : decode cX11_start 25 = .ok (.invokestatic 158, 3) := by decide +kernel
theorem dX11_start_28 : decode cX11_start 28 = .ok (.ifCond .eq 15, 3) := by decide +kernel
theorem dX11_start_43 : decode cX11_start 43 = .ok (.aload_n 0, 1) := by decide +kernel
theorem dX11_start_44 : decode cX11_start 44 = .ok (.iconst 1, 1) := by decide +kernel
theorem dX11_start_45 : decode cX11_start 45 = .ok (.invokevirtual 165, 3) := by decide +kernel
theorem dX11_start_31 : decode cX11_start 31 = .ok (.iload_n 3, 1) := by decide +kernel
theorem dX11_start_32 : decode cX11_start 32 = .ok (.i2l, 1) := by decide +kernel
theorem dX11_start_33 : decode cX11_start 33 = .ok (.lconst 0, 1) := by decide +kernel
theorem dX11_start_34 : decode cX11_start 34 = .ok (.ldc2_w 181, 3) := by decide +kernel
theorem dX11_start_37 : decode cX11_start 37 = .ok (.invokestatic 158, 3) := by decide +kernel
theorem dX11_start_40 : decode cX11_start 40 = .ok (.ifCond .ne 9, 3) := by decide +kernel
theorem dX11_start_49 : decode cX11_start 49 = .ok (.bipush 10, 2) := by decide +kernel
theorem dX11_start_51 : decode cX11_start 51 = .ok (.aload_n 0, 1) := by decide +kernel
theorem dX11_start_52 : decode cX11_start 52 = .ok (.iload_n 1, 1) := by decide +kernel
theorem dX11_start_53 : decode cX11_start 53 = .ok (.bipush 8, 2) := by decide +kernel
theorem dX11_start_55 : decode cX11_start 55 = .ok (.invokevirtual 175, 3) := by decide +kernel
theorem dX11_start_58 : decode cX11_start 58 = .ok (.imul, 1) := by decide +kernel
theorem dX11_start_59 : decode cX11_start 59 = .ok (.aload_n 0, 1) := by decide +kernel
theorem dX11_start_60 : decode cX11_start 60 = .ok (.iload_n 1, 1) := by decide +kernel
theorem dX11_start_61 : decode cX11_start 61 = .ok (.bipush 9, 2) := by decide +kernel
theorem dX11_start_63 : decode cX11_start 63 = .ok (.invokevirtual 175, 3) := by decide +kernel
theorem dX11_start_66 : decode cX11_start 66 = .ok (.iadd, 1) := by decide +kernel
theorem dX11_start_67 : decode cX11_start 67 = .ok (.istore 4, 2) := by decide +kernel
theorem dX11_start_69 : decode cX11_start 69 = .ok (.iload 4, 2) := by decide +kernel
theorem dX11_start_71 : decode cX11_start 71 = .ok (.bipush 10, 2) := by decide +kernel
theorem dX11_start_73 : decode cX11_start 73 = .ok (.iload_n 2, 1) := by decide +kernel
theorem dX11_start_74 : decode cX11_start 74 = .ok (.imul, 1) := by decide +kernel
theorem dX11_start_75 : decode cX11_start 75 = .ok (.iload_n 3, 1) := by decide +kernel
theorem dX11_start_76 : decode cX11_start 76 = .ok (.iadd, 1) := by decide +kernel
theorem dX11_start_77 : decode cX11_start 77 = .ok (.if_icmp .ne 9, 3) := by decide +kernel
theorem dX11_start_86 : decode cX11_start 86 = .ok (.aload_n 0, 1) := by decide +kernel
theorem dX11_start_87 : decode cX11_start 87 = .ok (.invokevirtual 162, 3) := by decide +kernel
theorem dX11_start_90 : decode cX11_start 90 = .ok (.aload_n 0, 1) := by decide +kernel
theorem dX11_start_91 : decode cX11_start 91 = .ok (.getfield 17, 3) := by decide +kernel
theorem dX11_start_94 : decode cX11_start 94 = .ok (.bipush 10, 2) := by decide +kernel
theorem dX11_start_96 : decode cX11_start 96 = .ok (.iload_n 1, 1) := by decide +kernel
theorem dX11_start_97 : decode cX11_start 97 = .ok (.imul, 1) := by decide +kernel
theorem dX11_start_98 : decode cX11_start 98 = .ok (.bipush 8, 2) := by decide +kernel
theorem dX11_start_100 : decode cX11_start 100 = .ok (.iadd, 1) := by decide +kernel
theorem dX11_start_101 : decode cX11_start 101 = .ok (.iload_n 2, 1) := by decide +kernel
theorem dX11_start_102 : decode cX11_start 102 = .ok (.iastore, 1) := by decide +kernel
theorem dX11_start_103 : decode cX11_start 103 = .ok (.aload_n 0, 1) := by decide +kernel
theorem dX11_start_104 : decode cX11_start 104 = .ok (.getfield 17, 3) := by decide +kernel
theorem dX11_start_107 : decode cX11_start 107 = .ok (.bipush 10, 2) := by decide +kernel
theorem dX11_start_109 : decode cX11_start 109 = .ok (.iload_n 1, 1) := by decide +kernel
theorem dX11_start_110 : decode cX11_start 110 = .ok (.imul, 1) := by decide +kernel
theorem dX11_start_111 : decode cX11_start 111 = .ok (.bipush 9, 2) := by decide +kernel
theorem dX11_start_113 : decode cX11_start 113 = .ok (.iadd, 1) := by decide +kernel
theorem dX11_start_114 : decode cX11_start 114 = .ok (.iload_n 3, 1) := by decide +kernel
theorem dX11_start_115 : decode cX11_start 115 = .ok (.iastore, 1) := by decide +kernel
theorem dX11_start_116 : decode cX11_start 116 = .ok (.iload 4, 2) := by decide +kernel
theorem dX11_start_80 : decode cX11_start 80 = .ok (.aload_n 0, 1) := by decide +kernel
theorem dX11_start_81 : decode cX11_start 81 = .ok (.iconst 3, 1) := by decide +kernel
theorem dX11_start_82 : decode cX11_start 82 = .ok (.invokevirtual 165, 3) := by decide +kernel
theorem dX11_start_13 : decode cX11_start 13 = .ok (.aload_n 0, 1) := by decide +kernel
theorem dX11_start_14 : decode cX11_start 14 = .ok (.iconst 0, 1) := by decide +kernel
theorem dX11_start_15 : decode cX11_start 15 = .ok (.invokevirtual 165, 3) := by decide +kernel
theorem dX11_start_48 : decode cX11_start 48 = .ok (.ireturn, 1) := by decide +kernel
theorem dX11_start_118 : decode cX11_start 118 = .ok (.ireturn, 1) := by decide +kernel
theorem dX11_start_85 : decode cX11_start 85 = .ok (.ireturn, 1) := by decide +kernel
theorem dX11_start_18 : decode cX11_start 18 = .ok (.ireturn, 1) := by decide +kernel
abbrev rm_s_X11_scaleX : Room := { frames := 2, cells := 0, slots := 0, locals := 46 }
set_option maxRecDepth 100000 in
set_option maxHeartbeats 4000000 in
theorem s_X11_scaleX (l : Launch) (D : va_G) (G : Nat → Nat) (b0 : Nat) (τ : Nat → Nat) (f : hM) (t : TI G 9 τ f) (u0 : Nat) (hu0 : τ u0 = 60) (u1 : Int32) (hu1 : iv u1 (-2147483648) 2147483647) (u2 : Int32) (hu2 : iv u2 (-2147483648) 2147483647) (ac : Int32) (hac : iv ac 0 12) (k_u0_10 : atp f u0 (fd 10 (.int ac))) (bq : Nat) (hbq : τ bq = 63) (k_u0_6 : atp f u0 (fd 6 (.ref bq))) (kq : Nat) (hkq : τ kq = 65) (k_u0_8 : atp f u0 (fd 8 (.ref kq))) (rb : Nat → Int32) (hRbq : atp f bq (eqc (.inl (G 1, 81, .inl rb)))) (rk : Nat → Int32) (hRkq : atp f kq (eqc (.inl (G 1, 972, .inl rk)))) : mI l yX11_scale cX11_scale 4 (.int) rm_s_X11_scaleX D G b0 f [.ref u0, .int u1, .int u2] (fun r f1 => iv r (-2147483648) 2147483647 ∧ TI G 9 τ f1 ∧ Fr [60, 63, 65, 66, 60001, 60011] τ f f1 ∧ (∃ ac1 : Int32, atp f1 u0 (fd 10 (.int ac1)) ∧ iv ac1 0 12 ∧ ((((0 ≤ u1.toInt ∧ u1.toInt < (rb 80).toInt) ∧ (2 ≤ u2.toInt ∧ u2.toInt ≤ 9) ∧ ∀ s : Nat, s < 8 → (rb (10 * u1.toInt + s).toNat * u2).toInt ≤ 9)) → ((ac.toInt = 12 → ac1.toInt = 12) ∧ (ac.toInt ≠ 12 → ac1.toInt = ac.toInt + 1))) ∧ (¬ (((0 ≤ u1.toInt ∧ u1.toInt < (rb 80).toInt) ∧ (2 ≤ u2.toInt ∧ u2.toInt ≤ 9) ∧ ∀ s : Nat, s < 8 → (rb (10 * u1.toInt + s).toNat * u2).toInt ≤ 9)) → ac1.toInt = ac.toInt)) ∧ (∃ rb1 : Nat → Int32, atp f1 bq (eqc (.inl (G 1, 81, .inl rb1))) ∧ (∀ k : Nat, k < 81 → rb1 k = if ((0 ≤ u1.toInt ∧ u1.toInt < (rb 80).toInt) ∧ (2 ≤ u2.toInt ∧ u2.toInt ≤ 9) ∧ ∀ s : Nat, s < 8 → (rb (10 * u1.toInt + s).toNat * u2).toInt ≤ 9) then sc rb u1.toInt u2 k else rb k)) ∧ (∃ rk1 : Nat → Int32, atp f1 kq (eqc (.inl (G 1, 972, .inl rk1))) ∧ (∀ k : Nat, k < 972 → rk1 k = if ((0 ≤ u1.toInt ∧ u1.toInt < (rb 80).toInt) ∧ (2 ≤ u2.toInt ∧ u2.toInt ≤ 9) ∧ ∀ s : Nat, s < 8 → (rb (10 * u1.toInt + s).toNat * u2).toInt ≤ 9) then kp rk rb ac.toInt k else rk k))) := by
  refine met2 (own := RX11) (by decide) rfl (Nat.le_of_ble_eq_true rfl) ?_
  intro p e s m args below meth c ls Q hQ C hr hini hl h
  have hl : lv_has ls 4 [(0, .ref u0), (1, .int u1), (2, .int u2)] := hl
  obtain ⟨hx, hb, hml, hown, hts, hE0, hlk⟩ := id C
  have o := Fr.rf [60, 63, 65, 66, 60001, 60011] τ f
  have L41 : ∀ (n41 : Nat) (ls : Array Slot) (f_41 : hM) (H : Heap) (locs : List Loc) (v41_3 : Int32), 8 - v41_3.toInt < (n41 : Int) → lv_has ls 4 [(0, .ref u0), (1, .int u1), (2, .int u2), (3, .int v41_3)] → hw D b0 s.heap f_41 H locs → TI G 9 τ f_41 → Fr [60, 63, 65, 66, 60001, 60011] τ f f_41 → iv u1 0 7 → iv u2 2 9 → iv v41_3 0 8 → atp f_41 u0 (fd 10 (.int ac)) → atp f_41 u0 (fd 6 (.ref bq)) → atp f_41 u0 (fd 8 (.ref kq)) → atp f_41 bq (eqc (.inl (G 1, 81, .inl rb))) → atp f_41 kq (eqc (.inl (G 1, 972, .inl rk))) → (0 ≤ u1.toInt ∧ u1.toInt < (rb 80).toInt) ∧ 2 ≤ u2.toInt ∧ u2.toInt ≤ 9 → (∀ s : Nat, (s : Int) < v41_3.toInt → (rb (10 * u1.toInt + s).toNat * u2).toInt ≤ 9) → W p l e rm_s_X11_scaleX s m args below meth c H locs 0 0 Q (F0 m 41 ls []) := by
    intro n41
    induction n41 with
    | zero => intro ls f_41 H locs v41_3 hm41 hl h t_41 o_41 jv41_1 jv41_2 iv41_3 k41_u0_10 k41_u0_6 k41_u0_8 k41_bq_R k41_kq_R hv41_0 hv41_1; exact absurd hm41 (by omega)
    | succ n41 ih41 =>
      intro ls f_41 H locs v41_3 hm41 hl h t_41 o_41 jv41_1 jv41_2 iv41_3 k41_u0_10 k41_u0_6 k41_u0_8 k41_bq_R k41_kq_R hv41_0 hv41_1
      have L78 : ∀ (n78 : Nat) (ls : Array Slot) (f_78 : hM) (H : Heap) (locs : List Loc) (v78_3 : Int32) (g78_bq_R : Nat → Int32) (g78_u0_10 : Int32) (g78_kq_R : Nat → Int32), 8 - v78_3.toInt < (n78 : Int) → lv_has ls 4 [(0, .ref u0), (1, .int u1), (2, .int u2), (3, .int v78_3)] → hw D b0 s.heap f_78 H locs → TI G 9 τ f_78 → Fr [60, 63, 65, 66, 60001, 60011] τ f f_78 → iv v78_3 0 8 → iv g78_u0_10 1 12 → atp f_78 u0 (fd 6 (.ref bq)) → atp f_78 u0 (fd 8 (.ref kq)) → atp f_78 bq (eqc (.inl (G 1, 81, .inl g78_bq_R))) → atp f_78 u0 (fd 10 (.int g78_u0_10)) → atp f_78 kq (eqc (.inl (G 1, 972, .inl g78_kq_R))) → ((g78_bq_R 80).toInt = (rb 80).toInt) → 0 ≤ u1.toInt ∧ u1.toInt < (rb 80).toInt → 2 ≤ u2.toInt ∧ u2.toInt ≤ 9 → ((ac.toInt = 12 → g78_u0_10.toInt = 12) ∧ (ac.toInt ≠ 12 → g78_u0_10.toInt = ac.toInt + 1)) → (∀ k : Nat, k < 972 → g78_kq_R k = kp rk rb ac.toInt k) → (∀ k : Nat, g78_bq_R k = if 10 * u1.toInt ≤ (k : Int) ∧ (k : Int) < 10 * u1.toInt + v78_3.toInt then rb k * u2 else rb k) → (∀ s : Nat, s < 8 → (rb (10 * u1.toInt + s).toNat * u2).toInt ≤ 9) → W p l e rm_s_X11_scaleX s m args below meth c H locs 0 0 Q (F0 m 78 ls []) := by
        intro n78
        induction n78 with
        | zero => intro ls f_78 H locs v78_3 g78_bq_R g78_u0_10 g78_kq_R hm78 hl h t_78 o_78 iv78_3 ig78_u0_10 k78_u0_6 k78_u0_8 k78_bq_R k78_u0_10 k78_kq_R hv78_0 hv78_1 hv78_2 hv78_3 hv78_4 hv78_5 hv78_6; exact absurd hm78 (by omega)
        | succ n78 ih78 =>
          intro ls f_78 H locs v78_3 g78_bq_R g78_u0_10 g78_kq_R hm78 hl h t_78 o_78 iv78_3 ig78_u0_10 k78_u0_6 k78_u0_8 k78_bq_R k78_u0_10 k78_kq_R hv78_0 hv78_1 hv78_2 hv78_3 hv78_4 hv78_5 hv78_6
          refine lv_iload_n hx hb dX11_scale_78 rfl (lv_at hl 3 rfl) ?_
          refine lv_bipush (v := 8) hx hb dX11_scale_79 (by decide) ?_
          refine lv_icmp_ge (tgt := 105) hx hb dX11_scale_81 (by decide) (fun c1 => ?_) (fun c1 => ?_)
          · have c2 : 8 ≤ v78_3.toInt := Int32.le_iff_toInt_le.mp c1
            have i3 : iv v78_3 8 8 := iv_Er c2 (iv_k (x := 8) (k := 8) rfl) iv78_3 (by decide)
            refine lv_aload_n hx hb dX11_scale_105 rfl (lv_at hl 0 rfl) ?_
            refine lv_iload_n hx hb dX11_scale_106 rfl (lv_at hl 1 rfl) ?_
            obtain ⟨_, r6⟩ := t_rec t_78 hu0 (by decide) wf_60
            refine k_i (r_V C h hl (As := [.int u1]) (rest := []) (s_X11_worthOf l D G b0 τ f_78 t_78 u0 hu0 u1 jv41_1) r6 (Cn := RX11) (T := TX11) (N := 32) rfl rfl mk_X11_worthOf w_1649 w_1651 w_53 w_1652 ⟨Nat.le_of_ble_eq_true rfl, Nat.le_of_ble_eq_true rfl⟩ rfl (Nat.le_of_ble_eq_true rfl) ⟨Nat.le_of_ble_eq_true rfl, Nat.le_of_ble_eq_true rfl⟩ rfl dX11_scale_107) h (fun r7 f8 H locs p9 h => ?_)
            obtain ⟨ir7, tf8, ogf8⟩ := p9
            have egf8 := Fr.nil2 ogf8
            subst egf8
            exact u_iret C h hr hQ (⟨ir7, t_78, o_78, ⟨g78_u0_10, k78_u0_10, (iv_w ig78_u0_10 (by decide)), ⟨fun _ => (by omega), fun z_ => (z_ ⟨by omega, by omega, hv78_6⟩).elim⟩⟩, ⟨g78_bq_R, k78_bq_R, (fun k hk => by
                rw [if_pos ⟨by omega, by omega, hv78_6⟩]
                rw [hv78_5 k]; unfold sc; (repeat' split) <;> first | rfl | (exfalso; omega) | (exact congrArg _ (by omega)))⟩, ⟨g78_kq_R, k78_kq_R, (fun k hk => by rw [if_pos ⟨by omega, by omega, hv78_6⟩]; exact hv78_4 k hk)⟩⟩) (Nat.le_of_ble_eq_true rfl) (Nat.le_of_ble_eq_true rfl) dX11_scale_110
          · have c4 : v78_3.toInt < 8 := Int32.lt_iff_toInt_lt.mp (iv_nle c1)
            have i5 : iv v78_3 0 7 := iv_Ll c4 iv78_3 (iv_k (x := 8) (k := 8) rfl) (by decide)
            refine lv_aload_n hx hb dX11_scale_84 rfl (lv_at hl 0 rfl) ?_
            refine t_getfd C h t_78 hu0 (by decide) wf_60 (v := .ref bq) k78_u0_6 fl_X11_17 dX11_scale_85 ?_
            refine lv_bipush (v := 10) hx hb dX11_scale_88 (by decide) ?_
            refine lv_iload_n hx hb dX11_scale_90 rfl (lv_at hl 1 rfl) ?_
            refine i_cmul hx hb dX11_scale_91 (k := 10) rfl jv41_1 (lo := 0) (hi := 70) (by decide) (fun z10 ez10 mz10 iz10 => ?_)
            refine lv_iload_n hx hb dX11_scale_92 rfl (lv_at hl 3 rfl) ?_
            refine i_add hx hb dX11_scale_93 iz10 i5 (lo := 0) (hi := 77) (by decide) (fun z11 ez11 mz11 iz11 => ?_)
            refine lv_dup2_11 hx hb dX11_scale_94 rfl rfl ?_
            refine e_bkld C h t_78 hbq (by decide) wf_63 k78_bq_R iz11 (by decide) dX11_scale_95 (fun z12 ez12 iz12 => ?_)
            have mz12 := congrArg Int32.toInt ez12
            refine lv_iload_n hx hb dX11_scale_96 rfl (lv_at hl 2 rfl) ?_
            refine i_mulp hx hb dX11_scale_97 iz12 jv41_2 (lo := 0) (hi := 81) (by decide) (fun z13 ez13 iz13 => ?_)
            have h_ := hv78_6 v78_3.toInt.toNat (by omega)
            rw [show (10 * u1.toInt + ((v78_3.toInt.toNat : Nat) : Int)).toNat = z11.toInt.toNat by omega] at h_
            have ey_ : z12 = rb z11.toInt.toNat := by rw [ez12, hv78_5 _, if_neg (by omega)]
            rw [← ey_, ← ez13] at h_
            have i14 : iv z13 0 9 := ⟨by omega, h_⟩
            refine e_bkst C h t_78 o_78 hbq (by decide) (by decide) wf_63 fw_63 k78_bq_R (Or.inl ⟨iv_w iz11 (by decide), i14⟩) dX11_scale_98 (fun R17 f15 erR17 H locs h tf15 of15 hq hn_ k16 => ?_)
            have k18 := atp.tg k78_u0_6 hq hu0 (by decide)
            have k19 := atp.tg k78_u0_8 hq hu0 (by decide)
            have k21 := atp.tg k78_u0_10 hq hu0 (by decide)
            have k22 := atp.tg k78_kq_R hq hkq (by decide)
            refine i_inc hx hb dX11_scale_99 hl (k := 3) rfl i5 rfl (lo := 1) (hi := 8) (by decide) (by decide) (lv' := fun v => [(3, .int v), (0, .ref u0), (1, .int u1), (2, .int u2)]) (fun _ => rfl) (fun z23 ls ez23 mz23 iz23 hl => ?_)
            refine lv_goto (tgt := 78) hx hb dX11_scale_102 (by decide) ?_
            exact ih78 ls f15 H locs z23 R17 g78_u0_10 g78_kq_R (show 8 - z23.toInt < _ by omega) (lv_cons hl 1 rfl (lv_cons hl 2 rfl (lv_cons hl 3 rfl (lv_cons hl 0 rfl (lv_nil hl))))) h tf15 of15 (iv_w iz23 (by decide)) ig78_u0_10 k18 k19 k16 k21 k22 (show (R17 80).toInt = (rb 80).toInt from (by rw [erR17, upd_off (by omega)]; exact hv78_0)) (show 0 ≤ u1.toInt ∧ u1.toInt < (rb 80).toInt by omega) (show 2 ≤ u2.toInt ∧ u2.toInt ≤ 9 by omega) (show ((ac.toInt = 12 → g78_u0_10.toInt = 12) ∧ (ac.toInt ≠ 12 → g78_u0_10.toInt = ac.toInt + 1)) by omega) (show ∀ k : Nat, k < 972 → g78_kq_R k = kp rk rb ac.toInt k from hv78_4) (show ∀ k : Nat, R17 k = if 10 * u1.toInt ≤ (k : Int) ∧ (k : Int) < 10 * u1.toInt + z23.toInt then rb k * u2 else rb k from (by
                intro k; rw [erR17]; by_cases q_ : k = z11.toInt.toNat
                · rw [upd_at q_, ez13, ey_, ← q_]; (repeat' split) <;> first | rfl | (exfalso; omega) | (exact congrArg _ (by omega)) | (exact congr (congrArg HAdd.hAdd (congrArg rb (by omega))) (congrArg rb (by omega)))
                · rw [upd_off q_, hv78_5 k]; (repeat' split) <;> first | rfl | (exfalso; omega) | (exact congrArg _ (by omega)))) (show ∀ s : Nat, s < 8 → (rb (10 * u1.toInt + s).toNat * u2).toInt ≤ 9 from hv78_6)
      refine lv_iload_n hx hb dX11_scale_41 rfl (lv_at hl 3 rfl) ?_
      refine lv_bipush (v := 8) hx hb dX11_scale_42 (by decide) ?_
      refine lv_icmp_ge (tgt := 72) hx hb dX11_scale_44 (by decide) (fun c24 => ?_) (fun c24 => ?_)
      · have c25 : 8 ≤ v41_3.toInt := Int32.le_iff_toInt_le.mp c24
        have i26 : iv v41_3 8 8 := iv_Er c25 (iv_k (x := 8) (k := 8) rfl) iv41_3 (by decide)
        refine lv_aload_n hx hb dX11_scale_72 rfl (lv_at hl 0 rfl) ?_
        obtain ⟨_, r29⟩ := t_rec t_41 hu0 (by decide) wf_60
        refine k_v (r_V C h hl (As := []) (rest := []) (s_X11_keepsX l D G b0 τ f_41 t_41 u0 hu0 ac hac k41_u0_10 bq hbq k41_u0_6 kq hkq k41_u0_8 rb k41_bq_R rk k41_kq_R) r29 (Cn := RX11) (T := TX11) (N := 32) rfl rfl mk_X11_keeps w_1612 w_1614 w_50 w_1615 ⟨Nat.le_of_ble_eq_true rfl, Nat.le_of_ble_eq_true rfl⟩ rfl (Nat.le_of_ble_eq_true rfl) ⟨Nat.le_of_ble_eq_true rfl, Nat.le_of_ble_eq_true rfl⟩ rfl dX11_scale_73) h (fun f31 H locs p32 h => ?_)
        obtain ⟨tf31, ogf31, ⟨ac1_f31, kpu0_10f31, ipu0_10f31, rpu0_10f31⟩, ⟨rk1_f31, kRkqf31, pRkqf31⟩⟩ := p32
        have of31 : Fr [60, 63, 65, 66, 60001, 60011] τ f f31 := Fr.tr o_41 ogf31 (by decide) (by decide)
        have k33 := atp.fk k41_u0_6 ogf31 hu0 (by decide) (by decide)
        have k34 := atp.fk k41_u0_8 ogf31 hu0 (by decide) (by decide)
        have k35 := atp.fr k41_bq_R ogf31 hbq (by decide)
        refine lv_iconst (v := 0) hx hb dX11_scale_76 (by decide) ?_
        refine lv_istore_n (lv' := [(3, .int 0), (0, .ref u0), (1, .int u1), (2, .int u2)]) hx hb dX11_scale_77 rfl hl (by decide) rfl (fun ls hl => ?_)
        exact L78 9 ls f31 H locs 0 rb ac1_f31 rk1_f31 (by decide) (lv_cons hl 1 rfl (lv_cons hl 2 rfl (lv_cons hl 3 rfl (lv_cons hl 0 rfl (lv_nil hl))))) h tf31 of31 ⟨by decide, by decide⟩ ipu0_10f31 k33 k34 k35 kpu0_10f31 kRkqf31 (show (rb 80).toInt = (rb 80).toInt from rfl) (show 0 ≤ u1.toInt ∧ u1.toInt < (rb 80).toInt by omega) (show 2 ≤ u2.toInt ∧ u2.toInt ≤ 9 by omega) (show ((ac.toInt = 12 → ac1_f31.toInt = 12) ∧ (ac.toInt ≠ 12 → ac1_f31.toInt = ac.toInt + 1)) by omega) (show ∀ k : Nat, k < 972 → rk1_f31 k = kp rk rb ac.toInt k from pRkqf31) (show ∀ k : Nat, rb k = if 10 * u1.toInt ≤ (k : Int) ∧ (k : Int) < 10 * u1.toInt + 0 then rb k * u2 else rb k from (by
            intro k; (repeat' split) <;> first | rfl | (exfalso; omega) | (exact congrArg _ (by omega)))) (show ∀ s : Nat, s < 8 → (rb (10 * u1.toInt + s).toNat * u2).toInt ≤ 9 from (fun s hs => hv41_1 s (by omega)))
      · have c27 : v41_3.toInt < 8 := Int32.lt_iff_toInt_lt.mp (iv_nle c24)
        have i28 : iv v41_3 0 7 := iv_Ll c27 iv41_3 (iv_k (x := 8) (k := 8) rfl) (by decide)
        refine lv_aload_n hx hb dX11_scale_47 rfl (lv_at hl 0 rfl) ?_
        refine lv_iload_n hx hb dX11_scale_48 rfl (lv_at hl 1 rfl) ?_
        refine lv_iload_n hx hb dX11_scale_49 rfl (lv_at hl 3 rfl) ?_
        obtain ⟨_, r36⟩ := t_rec t_41 hu0 (by decide) wf_60
        refine k_i (r_V C h hl (As := [.int u1, .int v41_3]) (rest := []) (s_X11_weightOfX l D G b0 τ f_41 t_41 u0 hu0 u1 jv41_1 v41_3 (iv_w i28 (by decide)) bq hbq k41_u0_6 rb k41_bq_R) r36 (Cn := RX11) (T := TX11) (N := 32) rfl rfl mk_X11_weightOf w_1631 w_1633 w_52 w_1634 ⟨Nat.le_of_ble_eq_true rfl, Nat.le_of_ble_eq_true rfl⟩ rfl (Nat.le_of_ble_eq_true rfl) ⟨Nat.le_of_ble_eq_true rfl, Nat.le_of_ble_eq_true rfl⟩ rfl dX11_scale_50) h (fun r37 f38 H locs p39 h => ?_)
        obtain ⟨ir37, tf38, ogf38, x0r37, x1r37⟩ := p39
        have egf38 := Fr.nil2 ogf38
        subst egf38
        refine lv_iload_n hx hb dX11_scale_53 rfl (lv_at hl 2 rfl) ?_
        refine i_mulp hx hb dX11_scale_54 ir37 jv41_2 (lo := 0) (hi := 81) (by decide) (fun z40 ez40 iz40 => ?_)
        refine lv_bipush (v := 9) hx hb dX11_scale_55 (by decide) ?_
        refine lv_icmp_le (tgt := 66) hx hb dX11_scale_57 (by decide) (fun c41 => ?_) (fun c41 => ?_)
        · have c42 : z40.toInt ≤ 9 := Int32.le_iff_toInt_le.mp c41
          have i43 : iv z40 0 9 := iv_El c42 iz40 (iv_k (x := 9) (k := 9) rfl) (by decide)
          refine i_inc hx hb dX11_scale_66 hl (k := 3) rfl i28 rfl (lo := 1) (hi := 8) (by decide) (by decide) (lv' := fun v => [(3, .int v), (0, .ref u0), (1, .int u1), (2, .int u2)]) (fun _ => rfl) (fun z46 ls ez46 mz46 iz46 hl => ?_)
          refine lv_goto (tgt := 41) hx hb dX11_scale_69 (by decide) ?_
          exact ih41 ls f_41 H locs z46 (show 8 - z46.toInt < _ by omega) (lv_cons hl 1 rfl (lv_cons hl 2 rfl (lv_cons hl 3 rfl (lv_cons hl 0 rfl (lv_nil hl))))) h t_41 o_41 jv41_1 jv41_2 (iv_w iz46 (by decide)) k41_u0_10 k41_u0_6 k41_u0_8 k41_bq_R k41_kq_R (show (0 ≤ u1.toInt ∧ u1.toInt < (rb 80).toInt) ∧ 2 ≤ u2.toInt ∧ u2.toInt ≤ 9 by omega) (show ∀ s : Nat, (s : Int) < z46.toInt → (rb (10 * u1.toInt + s).toNat * u2).toInt ≤ 9 from (fun s hs => by
              by_cases q_ : (s : Int) < v41_3.toInt
              · exact hv41_1 s q_
              · rw [show (s : Int) = v41_3.toInt by omega, ← x0r37, ← ez40]; omega))
        · have c44 : 9 < z40.toInt := Int32.lt_iff_toInt_lt.mp (iv_nle c41)
          have i45 : iv z40 10 81 := iv_Lr c44 (iv_k (x := 9) (k := 9) rfl) iz40 (by decide)
          refine lv_aload_n hx hb dX11_scale_60 rfl (lv_at hl 0 rfl) ?_
          refine lv_iconst (v := 1) hx hb dX11_scale_61 (by decide) ?_
          obtain ⟨_, r47⟩ := t_rec t_41 hu0 (by decide) wf_60
          refine k_i (r_V C h hl (As := [.int 1]) (rest := []) (s_X11_refuse l D G b0 τ f_41 t_41 u0 hu0 1 (iv_w (iv_k (x := 1) (k := 1) rfl) (by decide))) r47 (Cn := RX11) (T := TX11) (N := 32) rfl rfl mk_X11_refuse w_1604 w_1606 w_48 w_1607 ⟨Nat.le_of_ble_eq_true rfl, Nat.le_of_ble_eq_true rfl⟩ rfl (Nat.le_of_ble_eq_true rfl) ⟨Nat.le_of_ble_eq_true rfl, Nat.le_of_ble_eq_true rfl⟩ rfl dX11_scale_62) h (fun r48 f49 H locs p50 h => ?_)
          obtain ⟨ir48, tf49, ogf49⟩ := p50
          have of49 : Fr [60, 63, 65, 66, 60001, 60011] τ f f49 := Fr.tr o_41 ogf49 (by decide) (by decide)
          have k51 := atp.fr k41_u0_10 ogf49 hu0 (by decide)
          have k52 := atp.fr k41_u0_6 ogf49 hu0 (by decide)
          have k53 := atp.fr k41_u0_8 ogf49 hu0 (by decide)
          have k54 := atp.fr k41_bq_R ogf49 hbq (by decide)
          have k55 := atp.fr k41_kq_R ogf49 hkq (by decide)
          exact u_iret C h hr hQ (⟨(iv_w ir48 (by decide)), tf49, of49, ⟨ac, k51, hac, ⟨fun z_ => absurd z_ (fun z_ => by have h_ := z_.2.2 v41_3.toInt.toNat (by omega); rw [show ((v41_3.toInt.toNat : Nat) : Int) = v41_3.toInt by omega, ← x0r37, ← ez40] at h_; omega), fun _ => rfl⟩⟩, ⟨rb, k54, (fun k hk => by rw [if_neg (fun z_ => by have h_ := z_.2.2 v41_3.toInt.toNat (by omega); rw [show ((v41_3.toInt.toNat : Nat) : Int) = v41_3.toInt by omega, ← x0r37, ← ez40] at h_; omega)])⟩, ⟨rk, k55, (fun k hk => by rw [if_neg (fun z_ => by have h_ := z_.2.2 v41_3.toInt.toNat (by omega); rw [show ((v41_3.toInt.toNat : Nat) : Int) = v41_3.toInt by omega, ← x0r37, ← ez40] at h_; omega)])⟩⟩) (Nat.le_of_ble_eq_true rfl) (Nat.le_of_ble_eq_true rfl) dX11_scale_65
  refine lv_aload_n hx hb dX11_scale_0 rfl (lv_at hl 0 rfl) ?_
  refine lv_iconst (v := 0) hx hb dX11_scale_1 (by decide) ?_
  refine t_put C h t o hu0 (by decide) (by decide) (by decide) wf_60 fw_60 (k := 0) rfl flw_X11_75 (Or.inr ⟨_, _, _, rfl, rfl⟩) (v := .int 0) rfl rfl ⟨_, rfl, ⟨by decide, by decide⟩⟩ dX11_scale_2 (fun f56 H locs h tf56 of56 hq ha_ hn_ hk_ => ?_)
  have k57 := hk_ 10 _ (by decide) k_u0_10
  have k58 := hk_ 6 _ (by decide) k_u0_6
  have k59 := hk_ 8 _ (by decide) k_u0_8
  have k60 := atp.tg hRbq hq hbq (by decide)
  have k61 := atp.tg hRkq hq hkq (by decide)
  have k62 := ha_
  refine lv_aload_n hx hb dX11_scale_5 rfl (lv_at hl 0 rfl) ?_
  refine lv_iload_n hx hb dX11_scale_6 rfl (lv_at hl 1 rfl) ?_
  obtain ⟨_, r63⟩ := t_rec tf56 hu0 (by decide) wf_60
  refine k_i (r_V C h hl (As := [.int u1]) (rest := []) (s_X11_isSetX l D G b0 τ f56 tf56 u0 hu0 u1 hu1 bq hbq k58 rb k60) r63 (Cn := RX11) (T := TX11) (N := 32) rfl rfl mk_X11_isSet w_1620 w_1622 w_51 w_1623 ⟨Nat.le_of_ble_eq_true rfl, Nat.le_of_ble_eq_true rfl⟩ rfl (Nat.le_of_ble_eq_true rfl) ⟨Nat.le_of_ble_eq_true rfl, Nat.le_of_ble_eq_true rfl⟩ rfl dX11_scale_7) h (fun r64 f65 H locs p66 h => ?_)
  obtain ⟨ir64, tf65, ogf65, cnr64, czr64⟩ := p66
  have egf65 := Fr.nil2 ogf65
  subst egf65
  refine lv_if_ne (tgt := 19) hx hb dX11_scale_10 (by decide) (fun c67 => ?_) (fun c67 => ?_)
  · have c68 : r64.toInt ≠ 0 := fun z_ => c67 (Int32.toInt_inj.mp z_)
    have i69 : iv r64 1 1 := iv_Nl c68 ir64 (by decide)
    obtain ⟨i70, i71⟩ := cnr64 c68
    refine lv_iload_n hx hb dX11_scale_19 rfl (lv_at hl 2 rfl) ?_
    refine lv_i2l hx hb dX11_scale_20 rfl (i_topL hu2 (fun w75 ew75 mw75 iw75 => ?_))
    refine lv_ldc2 (v := 2) hx hb hown (hts _ w_1647) dX11_scale_21 ?_
    refine lv_ldc2 (v := 9) hx hb hown (hts _ w_1648) dX11_scale_24 ?_
    refine k_i (r_S C h hl (As := [.long w75, .long 2, .long 9]) (rest := []) (s_X11_isInX l D G b0 τ f56 tf56 w75 2 9) mk_X11_isIn w_1624 w_1625 w_1626 ⟨Nat.le_of_ble_eq_true rfl, Nat.le_of_ble_eq_true rfl⟩ rfl (Nat.le_of_ble_eq_true rfl) ⟨Nat.le_of_ble_eq_true rfl, Nat.le_of_ble_eq_true rfl⟩ rfl dX11_scale_27) h (fun r76 f77 H locs p78 h => ?_)
    have n79 : (2 : Int64).toInt = 2 := rfl
    have n80 : (9 : Int64).toInt = 9 := rfl
    obtain ⟨ir76, tf77, ogf77, cnr76, czr76⟩ := p78
    have egf77 := Fr.nil2 ogf77
    subst egf77
    refine lv_if_ne (tgt := 39) hx hb dX11_scale_30 (by decide) (fun c81 => ?_) (fun c81 => ?_)
    · have c82 : r76.toInt ≠ 0 := fun z_ => c81 (Int32.toInt_inj.mp z_)
      have i83 : iv r76 1 1 := iv_Nl c82 ir76 (by decide)
      obtain ⟨i84, i85⟩ := cnr76 c82
      have i86 : iv u2 2 9 := ⟨by omega, by omega⟩
      refine lv_iconst (v := 0) hx hb dX11_scale_39 (by decide) ?_
      refine lv_istore_n (lv' := [(3, .int 0), (0, .ref u0), (1, .int u1), (2, .int u2)]) hx hb dX11_scale_40 rfl hl (by decide) rfl (fun ls hl => ?_)
      exact L41 9 ls f56 H locs 0 (by decide) (lv_cons hl 1 rfl (lv_cons hl 2 rfl (lv_cons hl 3 rfl (lv_cons hl 0 rfl (lv_nil hl))))) h tf56 of56 i70 i86 ⟨by decide, by decide⟩ k57 k58 k59 k60 k61 (show (0 ≤ u1.toInt ∧ u1.toInt < (rb 80).toInt) ∧ 2 ≤ u2.toInt ∧ u2.toInt ≤ 9 by omega) (show ∀ s : Nat, (s : Int) < 0 → (rb (10 * u1.toInt + s).toNat * u2).toInt ≤ 9 from (fun s hs => by omega))
    · have c87 : r76.toInt = 0 := congrArg Int32.toInt c81
      have i88 : iv r76 0 0 := iv_Q c87 ir76 (iv_k (x := 0) (k := 0) rfl) (by decide)
      have i89 := czr76 c87
      refine lv_aload_n hx hb dX11_scale_33 rfl (lv_at hl 0 rfl) ?_
      refine lv_iconst (v := 1) hx hb dX11_scale_34 (by decide) ?_
      obtain ⟨_, r90⟩ := t_rec tf56 hu0 (by decide) wf_60
      refine k_i (r_V C h hl (As := [.int 1]) (rest := []) (s_X11_refuse l D G b0 τ f56 tf56 u0 hu0 1 (iv_w (iv_k (x := 1) (k := 1) rfl) (by decide))) r90 (Cn := RX11) (T := TX11) (N := 32) rfl rfl mk_X11_refuse w_1604 w_1606 w_48 w_1607 ⟨Nat.le_of_ble_eq_true rfl, Nat.le_of_ble_eq_true rfl⟩ rfl (Nat.le_of_ble_eq_true rfl) ⟨Nat.le_of_ble_eq_true rfl, Nat.le_of_ble_eq_true rfl⟩ rfl dX11_scale_35) h (fun r91 f92 H locs p93 h => ?_)
      obtain ⟨ir91, tf92, ogf92⟩ := p93
      have of92 : Fr [60, 63, 65, 66, 60001, 60011] τ f f92 := Fr.tr of56 ogf92 (by decide) (by decide)
      have k94 := atp.fr k57 ogf92 hu0 (by decide)
      have k95 := atp.fr k58 ogf92 hu0 (by decide)
      have k96 := atp.fr k59 ogf92 hu0 (by decide)
      have k97 := atp.fr k60 ogf92 hbq (by decide)
      have k98 := atp.fr k61 ogf92 hkq (by decide)
      exact u_iret C h hr hQ (⟨(iv_w ir91 (by decide)), tf92, of92, ⟨ac, k94, hac, ⟨fun z_ => absurd z_ (fun z_ => by have h1_ := z_.1; have h2_ := z_.2.1; omega), fun _ => rfl⟩⟩, ⟨rb, k97, (fun k hk => by rw [if_neg (fun z_ => by have h1_ := z_.1; have h2_ := z_.2.1; omega)])⟩, ⟨rk, k98, (fun k hk => by rw [if_neg (fun z_ => by have h1_ := z_.1; have h2_ := z_.2.1; omega)])⟩⟩) (Nat.le_of_ble_eq_true rfl) (Nat.le_of_ble_eq_true rfl) dX11_scale_38
  · have c72 : r64.toInt = 0 := congrArg Int32.toInt c67
    have i73 : iv r64 0 0 := iv_Q c72 ir64 (iv_k (x := 0) (k := 0) rfl) (by decide)
    have i74 := czr64 c72
    refine lv_aload_n hx hb dX11_scale_13 rfl (lv_at hl 0 rfl) ?_
    refine lv_iconst (v := 0) hx hb dX11_scale_14 (by decide) ?_
    obtain ⟨_, r99⟩ := t_rec tf56 hu0 (by decide) wf_60
    refine k_i (r_V C h hl (As := [.int 0]) (rest := []) (s_X11_refuse l D G b0 τ f56 tf56 u0 hu0 0 (iv_w (iv_k (x := 0) (k := 0) rfl) (by decide))) r99 (Cn := RX11) (T := TX11) (N := 32) rfl rfl mk_X11_refuse w_1604 w_1606 w_48 w_1607 ⟨Nat.le_of_ble_eq_true rfl, Nat.le_of_ble_eq_true rfl⟩ rfl (Nat.le_of_ble_eq_true rfl) ⟨Nat.le_of_ble_eq_true rfl, Nat.le_of_ble_eq_true rfl⟩ rfl dX11_scale_15) h (fun r100 f101 H locs p102 h => ?_)
    obtain ⟨ir100, tf101, ogf101⟩ := p102
    have of101 : Fr [60, 63, 65, 66, 60001, 60011] τ f f101 := Fr.tr of56 ogf101 (by decide) (by decide)
    have k103 := atp.fr k57 ogf101 hu0 (by decide)
    have k104 := atp.fr k58 ogf101 hu0 (by decide)
    have k105 := atp.fr k59 ogf101 hu0 (by decide)
    have k106 := atp.fr k60 ogf101 hbq (by decide)
    have k107 := atp.fr k61 ogf101 hkq (by decide)
    exact u_iret C h hr hQ (⟨(iv_w ir100 (by decide)), tf101, of101, ⟨ac, k103, hac, ⟨fun z_ => absurd z_ (fun z_ => by have h1_ := z_.1; have h2_ := z_.2.1; omega), fun _ => rfl⟩⟩, ⟨rb, k106, (fun k hk => by rw [if_neg (fun z_ => by have h1_ := z_.1; have h2_ := z_.2.1; omega)])⟩, ⟨rk, k107, (fun k hk => by rw [if_neg (fun z_ => by have h1_ := z_.1; have h2_ := z_.2.1; omega)])⟩⟩) (Nat.le_of_ble_eq_true rfl) (Nat.le_of_ble_eq_true rfl) dX11_scale_18
abbrev rm_s_X11_stepsOfX : Room := { frames := 1, cells := 0, slots := 0, locals := 22 }
set_option maxRecDepth 100000 in
set_option maxHeartbeats 4000000 in
theorem s_X11_stepsOfX (l : Launch) (D : va_G) (G : Nat → Nat) (b0 : Nat) (τ : Nat → Nat) (f : hM) (t : TI G 9 τ f) (u0 : Nat) (hu0 : τ u0 = 60) (u1 : Int32) (hu1 : iv u1 0 7) (bq : Nat) (hbq : τ bq = 63) (k_u0_6 : atp f u0 (fd 6 (.ref bq))) (rb : Nat → Int32) (hRbq : atp f bq (eqc (.inl (G 1, 81, .inl rb)))) : mI l yX11_stepsOf cX11_stepsOf 4 (.int) rm_s_X11_stepsOfX D G b0 f [.ref u0, .int u1] (fun r f1 => iv r 0 8 ∧ TI G 9 τ f1 ∧ Fr [] τ f f1 ∧ (r.toInt = cnt rb u1.toInt 8)) := by
  refine met2 (own := RX11) (by decide) rfl (Nat.le_of_ble_eq_true rfl) ?_
  intro p e s m args below meth c ls Q hQ C hr hini hl h
  have hl : lv_has ls 4 [(0, .ref u0), (1, .int u1)] := hl
  obtain ⟨hx, hb, hml, hown, hts, hE0, hlk⟩ := id C
  have o := Fr.rf [] τ f
  have L4 : ∀ (n4 : Nat) (ls : Array Slot) (f_4 : hM) (H : Heap) (locs : List Loc) (v4_2 : Int32) (v4_3 : Int32), 8 - v4_3.toInt < (n4 : Int) → lv_has ls 4 [(0, .ref u0), (1, .int u1), (2, .int v4_2), (3, .int v4_3)] → hw D b0 s.heap f_4 H locs → TI G 9 τ f_4 → Fr [] τ f f_4 → iv v4_2 0 8 → iv v4_3 0 8 → atp f_4 u0 (fd 6 (.ref bq)) → atp f_4 bq (eqc (.inl (G 1, 81, .inl rb))) → (v4_2.toInt = cnt rb u1.toInt (Int.toNat (v4_3.toInt))) → v4_2.toInt ≤ v4_3.toInt → W p l e rm_s_X11_stepsOfX s m args below meth c H locs 0 0 Q (F0 m 4 ls []) := by
    intro n4
    induction n4 with
    | zero => intro ls f_4 H locs v4_2 v4_3 hm4 hl h t_4 o_4 iv4_2 iv4_3 k4_u0_6 k4_bq_R hv4_0 hv4_1; exact absurd hm4 (by omega)
    | succ n4 ih4 =>
      intro ls f_4 H locs v4_2 v4_3 hm4 hl h t_4 o_4 iv4_2 iv4_3 k4_u0_6 k4_bq_R hv4_0 hv4_1
      refine lv_iload_n hx hb dX11_stepsOf_4 rfl (lv_at hl 3 rfl) ?_
      refine lv_bipush (v := 8) hx hb dX11_stepsOf_5 (by decide) ?_
      refine lv_icmp_ge (tgt := 33) hx hb dX11_stepsOf_7 (by decide) (fun c1 => ?_) (fun c1 => ?_)
      · have c2 : 8 ≤ v4_3.toInt := Int32.le_iff_toInt_le.mp c1
        have i3 : iv v4_3 8 8 := iv_Er c2 (iv_k (x := 8) (k := 8) rfl) iv4_3 (by decide)
        refine lv_iload_n hx hb dX11_stepsOf_33 rfl (lv_at hl 2 rfl) ?_
        exact u_iret C h hr hQ (⟨iv4_2, t_4, o_4, (by rw [hv4_0, show v4_3.toInt.toNat = 8 by omega])⟩) (Nat.le_of_ble_eq_true rfl) (Nat.le_of_ble_eq_true rfl) dX11_stepsOf_34
      · have c4 : v4_3.toInt < 8 := Int32.lt_iff_toInt_lt.mp (iv_nle c1)
        have i5 : iv v4_3 0 7 := iv_Ll c4 iv4_3 (iv_k (x := 8) (k := 8) rfl) (by decide)
        refine lv_iload_n hx hb dX11_stepsOf_10 rfl (lv_at hl 2 rfl) ?_
        refine lv_aload_n hx hb dX11_stepsOf_11 rfl (lv_at hl 0 rfl) ?_
        refine lv_iload_n hx hb dX11_stepsOf_12 rfl (lv_at hl 1 rfl) ?_
        refine lv_iload_n hx hb dX11_stepsOf_13 rfl (lv_at hl 3 rfl) ?_
        obtain ⟨_, r6⟩ := t_rec t_4 hu0 (by decide) wf_60
        refine k_i (r_V C h hl (As := [.int u1, .int v4_3]) (rest := [.int v4_2]) (s_X11_weightOfX l D G b0 τ f_4 t_4 u0 hu0 u1 hu1 v4_3 (iv_w i5 (by decide)) bq hbq k4_u0_6 rb k4_bq_R) r6 (Cn := RX11) (T := TX11) (N := 32) rfl rfl mk_X11_weightOf w_1631 w_1633 w_52 w_1634 ⟨Nat.le_of_ble_eq_true rfl, Nat.le_of_ble_eq_true rfl⟩ rfl (Nat.le_of_ble_eq_true rfl) ⟨Nat.le_of_ble_eq_true rfl, Nat.le_of_ble_eq_true rfl⟩ rfl dX11_stepsOf_14) h (fun r7 f8 H locs p9 h => ?_)
        obtain ⟨ir7, tf8, ogf8, x0r7, x1r7⟩ := p9
        have egf8 := Fr.nil2 ogf8
        subst egf8
        refine lv_if_le (tgt := 24) hx hb dX11_stepsOf_17 (by decide) (fun c10 => ?_) (fun c10 => ?_)
        · have c11 : r7.toInt ≤ 0 := Int32.le_iff_toInt_le.mp c10
          have i12 : iv r7 0 0 := iv_El c11 ir7 (iv_k (x := 0) (k := 0) rfl) (by decide)
          refine lv_iconst (v := 0) hx hb dX11_stepsOf_24 (by decide) ?_
          refine i_addk hx hb dX11_stepsOf_25 iv4_2 (k := 0) rfl (lo := 0) (hi := 8) (by decide) (fun z15 ez15 mz15 iz15 => ?_)
          refine lv_istore_n (lv' := [(2, .int z15), (0, .ref u0), (1, .int u1), (3, .int v4_3)]) hx hb dX11_stepsOf_26 rfl hl (by decide) rfl (fun ls hl => ?_)
          refine i_inc hx hb dX11_stepsOf_27 hl (k := 3) rfl i5 rfl (lo := 1) (hi := 8) (by decide) (by decide) (lv' := fun v => [(3, .int v), (2, .int z15), (0, .ref u0), (1, .int u1)]) (fun _ => rfl) (fun z16 ls ez16 mz16 iz16 hl => ?_)
          refine lv_goto (tgt := 4) hx hb dX11_stepsOf_30 (by decide) ?_
          exact ih4 ls f_4 H locs z15 z16 (show 8 - z16.toInt < _ by omega) (lv_cons hl 2 rfl (lv_cons hl 3 rfl (lv_cons hl 1 rfl (lv_cons hl 0 rfl (lv_nil hl))))) h t_4 o_4 iz15 (iv_w iz16 (by decide)) k4_u0_6 k4_bq_R (show z15.toInt = cnt rb u1.toInt (Int.toNat (z16.toInt)) from (by rw [cnt_s (i := v4_3.toInt) (by omega) (by omega), ← hv4_0, ← x1r7]; split <;> omega)) (show z15.toInt ≤ z16.toInt by omega)
        · have c13 : 0 < r7.toInt := Int32.lt_iff_toInt_lt.mp (iv_nle c10)
          have i14 : iv r7 1 9 := iv_Lr c13 (iv_k (x := 0) (k := 0) rfl) ir7 (by decide)
          refine lv_iconst (v := 1) hx hb dX11_stepsOf_20 (by decide) ?_
          refine lv_goto (tgt := 25) hx hb dX11_stepsOf_21 (by decide) ?_
          refine i_addk hx hb dX11_stepsOf_25 iv4_2 (k := 1) rfl (lo := 1) (hi := 9) (by decide) (fun z17 ez17 mz17 iz17 => ?_)
          refine lv_istore_n (lv' := [(2, .int z17), (0, .ref u0), (1, .int u1), (3, .int v4_3)]) hx hb dX11_stepsOf_26 rfl hl (by decide) rfl (fun ls hl => ?_)
          refine i_inc hx hb dX11_stepsOf_27 hl (k := 3) rfl i5 rfl (lo := 1) (hi := 8) (by decide) (by decide) (lv' := fun v => [(3, .int v), (2, .int z17), (0, .ref u0), (1, .int u1)]) (fun _ => rfl) (fun z18 ls ez18 mz18 iz18 hl => ?_)
          refine lv_goto (tgt := 4) hx hb dX11_stepsOf_30 (by decide) ?_
          exact ih4 ls f_4 H locs z17 z18 (show 8 - z18.toInt < _ by omega) (lv_cons hl 2 rfl (lv_cons hl 3 rfl (lv_cons hl 1 rfl (lv_cons hl 0 rfl (lv_nil hl))))) h t_4 o_4 (show iv z17 0 8 from by omega) (iv_w iz18 (by decide)) k4_u0_6 k4_bq_R (show z17.toInt = cnt rb u1.toInt (Int.toNat (z18.toInt)) from (by rw [cnt_s (i := v4_3.toInt) (by omega) (by omega), ← hv4_0, ← x1r7]; split <;> omega)) (show z17.toInt ≤ z18.toInt by omega)
  refine lv_iconst (v := 0) hx hb dX11_stepsOf_0 (by decide) ?_
  refine lv_istore_n (lv' := [(2, .int 0), (0, .ref u0), (1, .int u1)]) hx hb dX11_stepsOf_1 rfl hl (by decide) rfl (fun ls hl => ?_)
  refine lv_iconst (v := 0) hx hb dX11_stepsOf_2 (by decide) ?_
  refine lv_istore_n (lv' := [(3, .int 0), (2, .int 0), (0, .ref u0), (1, .int u1)]) hx hb dX11_stepsOf_3 rfl hl (by decide) rfl (fun ls hl => ?_)
  exact L4 9 ls f s.heap [] 0 0 (by decide) (lv_cons hl 2 rfl (lv_cons hl 3 rfl (lv_cons hl 1 rfl (lv_cons hl 0 rfl (lv_nil hl))))) h t o ⟨by decide, by decide⟩ ⟨by decide, by decide⟩ k_u0_6 hRbq (show 0 = cnt rb u1.toInt (Int.toNat (0)) from rfl) (show 0 ≤ 0 by omega)
abbrev rm_s_X11_weighX : Room := { frames := 2, cells := 0, slots := 0, locals := 46 }
set_option maxRecDepth 100000 in
set_option maxHeartbeats 4000000 in
theorem s_X11_weighX (l : Launch) (D : va_G) (G : Nat → Nat) (b0 : Nat) (τ : Nat → Nat) (f : hM) (t : TI G 9 τ f) (u0 : Nat) (hu0 : τ u0 = 60) (u1 : Int32) (hu1 : iv u1 (-2147483648) 2147483647) (u2 : Int32) (hu2 : iv u2 (-2147483648) 2147483647) (u3 : Int32) (hu3 : iv u3 (-2147483648) 2147483647) (ac : Int32) (hac : iv ac 0 12) (k_u0_10 : atp f u0 (fd 10 (.int ac))) (bq : Nat) (hbq : τ bq = 63) (k_u0_6 : atp f u0 (fd 6 (.ref bq))) (kq : Nat) (hkq : τ kq = 65) (k_u0_8 : atp f u0 (fd 8 (.ref kq))) (rb : Nat → Int32) (hRbq : atp f bq (eqc (.inl (G 1, 81, .inl rb)))) (rk : Nat → Int32) (hRkq : atp f kq (eqc (.inl (G 1, 972, .inl rk)))) : mI l yX11_weigh cX11_weigh 5 (.int) rm_s_X11_weighX D G b0 f [.ref u0, .int u1, .int u2, .int u3] (fun r f1 => iv r (-1) 9 ∧ TI G 9 τ f1 ∧ Fr [60, 63, 65, 66, 60001, 60011] τ f f1 ∧ (((((0 ≤ u1.toInt ∧ u1.toInt < (rb 80).toInt) ∧ (0 ≤ u2.toInt ∧ u2.toInt ≤ 7) ∧ (0 ≤ u3.toInt ∧ u3.toInt ≤ 9) ∧ ¬ (u3.toInt = 0 ∧ 0 < (rb (10 * u1.toInt + u2.toInt).toNat).toInt ∧ cnt rb u1.toInt 8 = 1) ∧ (rb (10 * u1.toInt + u2.toInt).toNat).toInt ≠ u3.toInt)) → r.toInt = (rb (10 * u1.toInt + u2.toInt).toNat).toInt) ∧ (¬ (((0 ≤ u1.toInt ∧ u1.toInt < (rb 80).toInt) ∧ (0 ≤ u2.toInt ∧ u2.toInt ≤ 7) ∧ (0 ≤ u3.toInt ∧ u3.toInt ≤ 9) ∧ ¬ (u3.toInt = 0 ∧ 0 < (rb (10 * u1.toInt + u2.toInt).toNat).toInt ∧ cnt rb u1.toInt 8 = 1) ∧ (rb (10 * u1.toInt + u2.toInt).toNat).toInt ≠ u3.toInt)) → r.toInt = -1)) ∧ (∃ ac1 : Int32, atp f1 u0 (fd 10 (.int ac1)) ∧ iv ac1 0 12 ∧ ((((0 ≤ u1.toInt ∧ u1.toInt < (rb 80).toInt) ∧ (0 ≤ u2.toInt ∧ u2.toInt ≤ 7) ∧ (0 ≤ u3.toInt ∧ u3.toInt ≤ 9) ∧ ¬ (u3.toInt = 0 ∧ 0 < (rb (10 * u1.toInt + u2.toInt).toNat).toInt ∧ cnt rb u1.toInt 8 = 1) ∧ (rb (10 * u1.toInt + u2.toInt).toNat).toInt ≠ u3.toInt)) → ((ac.toInt = 12 → ac1.toInt = 12) ∧ (ac.toInt ≠ 12 → ac1.toInt = ac.toInt + 1))) ∧ (¬ (((0 ≤ u1.toInt ∧ u1.toInt < (rb 80).toInt) ∧ (0 ≤ u2.toInt ∧ u2.toInt ≤ 7) ∧ (0 ≤ u3.toInt ∧ u3.toInt ≤ 9) ∧ ¬ (u3.toInt = 0 ∧ 0 < (rb (10 * u1.toInt + u2.toInt).toNat).toInt ∧ cnt rb u1.toInt 8 = 1) ∧ (rb (10 * u1.toInt + u2.toInt).toNat).toInt ≠ u3.toInt)) → ac1.toInt = ac.toInt)) ∧ (∃ rb1 : Nat → Int32, atp f1 bq (eqc (.inl (G 1, 81, .inl rb1))) ∧ (∀ k : Nat, k < 81 → rb1 k = if ((0 ≤ u1.toInt ∧ u1.toInt < (rb 80).toInt) ∧ (0 ≤ u2.toInt ∧ u2.toInt ≤ 7) ∧ (0 ≤ u3.toInt ∧ u3.toInt ≤ 9) ∧ ¬ (u3.toInt = 0 ∧ 0 < (rb (10 * u1.toInt + u2.toInt).toNat).toInt ∧ cnt rb u1.toInt 8 = 1) ∧ (rb (10 * u1.toInt + u2.toInt).toNat).toInt ≠ u3.toInt) then we rb u1.toInt u2.toInt u3 k else rb k)) ∧ (∃ rk1 : Nat → Int32, atp f1 kq (eqc (.inl (G 1, 972, .inl rk1))) ∧ (∀ k : Nat, k < 972 → rk1 k = if ((0 ≤ u1.toInt ∧ u1.toInt < (rb 80).toInt) ∧ (0 ≤ u2.toInt ∧ u2.toInt ≤ 7) ∧ (0 ≤ u3.toInt ∧ u3.toInt ≤ 9) ∧ ¬ (u3.toInt = 0 ∧ 0 < (rb (10 * u1.toInt + u2.toInt).toNat).toInt ∧ cnt rb u1.toInt 8 = 1) ∧ (rb (10 * u1.toInt + u2.toInt).toNat).toInt ≠ u3.toInt) then kp rk rb ac.toInt k else rk k))) := by
  refine met2 (own := RX11) (by decide) rfl (Nat.le_of_ble_eq_true rfl) ?_
  intro p e s m args below meth c ls Q hQ C hr hini hl h
  have hl : lv_has ls 5 [(0, .ref u0), (1, .int u1), (2, .int u2), (3, .int u3)] := hl
  obtain ⟨hx, hb, hml, hown, hts, hE0, hlk⟩ := id C
  have o := Fr.rf [60, 63, 65, 66, 60001, 60011] τ f
  refine lv_aload_n hx hb dX11_weigh_0 rfl (lv_at hl 0 rfl) ?_
  refine lv_iconst (v := 0) hx hb dX11_weigh_1 (by decide) ?_
  refine t_put C h t o hu0 (by decide) (by decide) (by decide) wf_60 fw_60 (k := 0) rfl flw_X11_75 (Or.inr ⟨_, _, _, rfl, rfl⟩) (v := .int 0) rfl rfl ⟨_, rfl, ⟨by decide, by decide⟩⟩ dX11_weigh_2 (fun f1 H locs h tf1 of1 hq ha_ hn_ hk_ => ?_)
  have k2 := hk_ 10 _ (by decide) k_u0_10
  have k3 := hk_ 6 _ (by decide) k_u0_6
  have k4 := hk_ 8 _ (by decide) k_u0_8
  have k5 := atp.tg hRbq hq hbq (by decide)
  have k6 := atp.tg hRkq hq hkq (by decide)
  have k7 := ha_
  refine lv_aload_n hx hb dX11_weigh_5 rfl (lv_at hl 0 rfl) ?_
  refine lv_iload_n hx hb dX11_weigh_6 rfl (lv_at hl 1 rfl) ?_
  obtain ⟨_, r8⟩ := t_rec tf1 hu0 (by decide) wf_60
  refine k_i (r_V C h hl (As := [.int u1]) (rest := []) (s_X11_isSetX l D G b0 τ f1 tf1 u0 hu0 u1 hu1 bq hbq k3 rb k5) r8 (Cn := RX11) (T := TX11) (N := 32) rfl rfl mk_X11_isSet w_1620 w_1622 w_51 w_1623 ⟨Nat.le_of_ble_eq_true rfl, Nat.le_of_ble_eq_true rfl⟩ rfl (Nat.le_of_ble_eq_true rfl) ⟨Nat.le_of_ble_eq_true rfl, Nat.le_of_ble_eq_true rfl⟩ rfl dX11_weigh_7) h (fun r9 f10 H locs p11 h => ?_)
  obtain ⟨ir9, tf10, ogf10, cnr9, czr9⟩ := p11
  have egf10 := Fr.nil2 ogf10
  subst egf10
  refine lv_if_ne (tgt := 19) hx hb dX11_weigh_10 (by decide) (fun c12 => ?_) (fun c12 => ?_)
  · have c13 : r9.toInt ≠ 0 := fun z_ => c12 (Int32.toInt_inj.mp z_)
    have i14 : iv r9 1 1 := iv_Nl c13 ir9 (by decide)
    obtain ⟨i15, i16⟩ := cnr9 c13
    refine lv_iload_n hx hb dX11_weigh_19 rfl (lv_at hl 2 rfl) ?_
    refine lv_i2l hx hb dX11_weigh_20 rfl (i_topL hu2 (fun w20 ew20 mw20 iw20 => ?_))
    refine lv_lconst (v := 0) hx hb dX11_weigh_21 (by decide) ?_
    refine lv_ldc2 (v := 7) hx hb hown (hts _ w_1657) dX11_weigh_22 ?_
    refine k_i (r_S C h hl (As := [.long w20, .long 0, .long 7]) (rest := []) (s_X11_isInX l D G b0 τ f1 tf1 w20 0 7) mk_X11_isIn w_1624 w_1625 w_1626 ⟨Nat.le_of_ble_eq_true rfl, Nat.le_of_ble_eq_true rfl⟩ rfl (Nat.le_of_ble_eq_true rfl) ⟨Nat.le_of_ble_eq_true rfl, Nat.le_of_ble_eq_true rfl⟩ rfl dX11_weigh_25) h (fun r21 f22 H locs p23 h => ?_)
    have n24 : (0 : Int64).toInt = 0 := rfl
    have n25 : (7 : Int64).toInt = 7 := rfl
    obtain ⟨ir21, tf22, ogf22, cnr21, czr21⟩ := p23
    have egf22 := Fr.nil2 ogf22
    subst egf22
    refine lv_if_eq (tgt := 65) hx hb dX11_weigh_28 (by decide) (fun c26 => ?_) (fun c26 => ?_)
    · have c27 : r21.toInt = 0 := congrArg Int32.toInt c26
      have i28 : iv r21 0 0 := iv_Q c27 ir21 (iv_k (x := 0) (k := 0) rfl) (by decide)
      have i29 := czr21 c27
      refine lv_aload_n hx hb dX11_weigh_65 rfl (lv_at hl 0 rfl) ?_
      refine lv_iconst (v := 1) hx hb dX11_weigh_66 (by decide) ?_
      obtain ⟨_, r35⟩ := t_rec tf1 hu0 (by decide) wf_60
      refine k_i (r_V C h hl (As := [.int 1]) (rest := []) (s_X11_refuse l D G b0 τ f1 tf1 u0 hu0 1 (iv_w (iv_k (x := 1) (k := 1) rfl) (by decide))) r35 (Cn := RX11) (T := TX11) (N := 32) rfl rfl mk_X11_refuse w_1604 w_1606 w_48 w_1607 ⟨Nat.le_of_ble_eq_true rfl, Nat.le_of_ble_eq_true rfl⟩ rfl (Nat.le_of_ble_eq_true rfl) ⟨Nat.le_of_ble_eq_true rfl, Nat.le_of_ble_eq_true rfl⟩ rfl dX11_weigh_67) h (fun r36 f37 H locs p38 h => ?_)
      obtain ⟨ir36, tf37, ogf37⟩ := p38
      have of37 : Fr [60, 63, 65, 66, 60001, 60011] τ f f37 := Fr.tr of1 ogf37 (by decide) (by decide)
      have k39 := atp.fr k2 ogf37 hu0 (by decide)
      have k40 := atp.fr k3 ogf37 hu0 (by decide)
      have k41 := atp.fr k4 ogf37 hu0 (by decide)
      have k42 := atp.fr k5 ogf37 hbq (by decide)
      have k43 := atp.fr k6 ogf37 hkq (by decide)
      exact u_iret C h hr hQ (⟨(iv_w ir36 (by decide)), tf37, of37, ⟨fun z_ => absurd z_ (by omega), fun _ => (by omega)⟩, ⟨ac, k39, hac, ⟨fun z_ => absurd z_ (by omega), fun _ => rfl⟩⟩, ⟨rb, k42, (fun k hk => by rw [if_neg (by omega)])⟩, ⟨rk, k43, (fun k hk => by rw [if_neg (by omega)])⟩⟩) (Nat.le_of_ble_eq_true rfl) (Nat.le_of_ble_eq_true rfl) dX11_weigh_70
    · have c30 : r21.toInt ≠ 0 := fun z_ => c26 (Int32.toInt_inj.mp z_)
      have i31 : iv r21 1 1 := iv_Nl c30 ir21 (by decide)
      obtain ⟨i32, i33⟩ := cnr21 c30
      have i34 : iv u2 0 7 := ⟨by omega, by omega⟩
      refine lv_iload_n hx hb dX11_weigh_31 rfl (lv_at hl 3 rfl) ?_
      refine lv_i2l hx hb dX11_weigh_32 rfl (i_topL hu3 (fun w44 ew44 mw44 iw44 => ?_))
      refine lv_lconst (v := 0) hx hb dX11_weigh_33 (by decide) ?_
      refine lv_ldc2 (v := 9) hx hb hown (hts _ w_1648) dX11_weigh_34 ?_
      refine k_i (r_S C h hl (As := [.long w44, .long 0, .long 9]) (rest := []) (s_X11_isInX l D G b0 τ f1 tf1 w44 0 9) mk_X11_isIn w_1624 w_1625 w_1626 ⟨Nat.le_of_ble_eq_true rfl, Nat.le_of_ble_eq_true rfl⟩ rfl (Nat.le_of_ble_eq_true rfl) ⟨Nat.le_of_ble_eq_true rfl, Nat.le_of_ble_eq_true rfl⟩ rfl dX11_weigh_37) h (fun r45 f46 H locs p47 h => ?_)
      have n48 : (0 : Int64).toInt = 0 := rfl
      have n49 : (9 : Int64).toInt = 9 := rfl
      obtain ⟨ir45, tf46, ogf46, cnr45, czr45⟩ := p47
      have egf46 := Fr.nil2 ogf46
      subst egf46
      refine lv_if_eq (tgt := 65) hx hb dX11_weigh_40 (by decide) (fun c50 => ?_) (fun c50 => ?_)
      · have c51 : r45.toInt = 0 := congrArg Int32.toInt c50
        have i52 : iv r45 0 0 := iv_Q c51 ir45 (iv_k (x := 0) (k := 0) rfl) (by decide)
        have i53 := czr45 c51
        refine lv_aload_n hx hb dX11_weigh_65 rfl (lv_at hl 0 rfl) ?_
        refine lv_iconst (v := 1) hx hb dX11_weigh_66 (by decide) ?_
        obtain ⟨_, r59⟩ := t_rec tf1 hu0 (by decide) wf_60
        refine k_i (r_V C h hl (As := [.int 1]) (rest := []) (s_X11_refuse l D G b0 τ f1 tf1 u0 hu0 1 (iv_w (iv_k (x := 1) (k := 1) rfl) (by decide))) r59 (Cn := RX11) (T := TX11) (N := 32) rfl rfl mk_X11_refuse w_1604 w_1606 w_48 w_1607 ⟨Nat.le_of_ble_eq_true rfl, Nat.le_of_ble_eq_true rfl⟩ rfl (Nat.le_of_ble_eq_true rfl) ⟨Nat.le_of_ble_eq_true rfl, Nat.le_of_ble_eq_true rfl⟩ rfl dX11_weigh_67) h (fun r60 f61 H locs p62 h => ?_)
        obtain ⟨ir60, tf61, ogf61⟩ := p62
        have of61 : Fr [60, 63, 65, 66, 60001, 60011] τ f f61 := Fr.tr of1 ogf61 (by decide) (by decide)
        have k63 := atp.fr k2 ogf61 hu0 (by decide)
        have k64 := atp.fr k3 ogf61 hu0 (by decide)
        have k65 := atp.fr k4 ogf61 hu0 (by decide)
        have k66 := atp.fr k5 ogf61 hbq (by decide)
        have k67 := atp.fr k6 ogf61 hkq (by decide)
        exact u_iret C h hr hQ (⟨(iv_w ir60 (by decide)), tf61, of61, ⟨fun z_ => absurd z_ (by omega), fun _ => (by omega)⟩, ⟨ac, k63, hac, ⟨fun z_ => absurd z_ (by omega), fun _ => rfl⟩⟩, ⟨rb, k66, (fun k hk => by rw [if_neg (by omega)])⟩, ⟨rk, k67, (fun k hk => by rw [if_neg (by omega)])⟩⟩) (Nat.le_of_ble_eq_true rfl) (Nat.le_of_ble_eq_true rfl) dX11_weigh_70
      · have c54 : r45.toInt ≠ 0 := fun z_ => c50 (Int32.toInt_inj.mp z_)
        have i55 : iv r45 1 1 := iv_Nl c54 ir45 (by decide)
        obtain ⟨i56, i57⟩ := cnr45 c54
        have i58 : iv u3 0 9 := ⟨by omega, by omega⟩
        refine lv_iload_n hx hb dX11_weigh_43 rfl (lv_at hl 3 rfl) ?_
        refine lv_if_ne (tgt := 71) hx hb dX11_weigh_44 (by decide) (fun c68 => ?_) (fun c68 => ?_)
        · have c69 : u3.toInt ≠ 0 := fun z_ => c68 (Int32.toInt_inj.mp z_)
          have i70 : iv u3 1 9 := iv_Nl c69 i58 (by decide)
          refine lv_aload_n hx hb dX11_weigh_71 rfl (lv_at hl 0 rfl) ?_
          refine lv_iload_n hx hb dX11_weigh_72 rfl (lv_at hl 1 rfl) ?_
          refine lv_iload_n hx hb dX11_weigh_73 rfl (lv_at hl 2 rfl) ?_
          obtain ⟨_, r73⟩ := t_rec tf1 hu0 (by decide) wf_60
          refine k_i (r_V C h hl (As := [.int u1, .int u2]) (rest := []) (s_X11_weightOfX l D G b0 τ f1 tf1 u0 hu0 u1 i15 u2 (iv_w i34 (by decide)) bq hbq k3 rb k5) r73 (Cn := RX11) (T := TX11) (N := 32) rfl rfl mk_X11_weightOf w_1631 w_1633 w_52 w_1634 ⟨Nat.le_of_ble_eq_true rfl, Nat.le_of_ble_eq_true rfl⟩ rfl (Nat.le_of_ble_eq_true rfl) ⟨Nat.le_of_ble_eq_true rfl, Nat.le_of_ble_eq_true rfl⟩ rfl dX11_weigh_74) h (fun r74 f75 H locs p76 h => ?_)
          obtain ⟨ir74, tf75, ogf75, x0r74, x1r74⟩ := p76
          have egf75 := Fr.nil2 ogf75
          subst egf75
          refine lv_istore (lv' := [(4, .int r74), (0, .ref u0), (1, .int u1), (2, .int u2), (3, .int u3)]) hx hb dX11_weigh_77 hl (by decide) rfl (fun ls hl => ?_)
          refine lv_iload hx hb dX11_weigh_79 (lv_at hl 0 rfl) ?_
          refine lv_iload_n hx hb dX11_weigh_81 rfl (lv_at hl 4 rfl) ?_
          refine lv_icmp_ne (tgt := 91) hx hb dX11_weigh_82 (by decide) (fun c77 => ?_) (fun c77 => ?_)
          · have c78 : r74.toInt ≠ u3.toInt := fun z_ => c77 (Int32.toInt_inj.mp z_)
            refine lv_aload_n hx hb dX11_weigh_91 rfl (lv_at hl 1 rfl) ?_
            obtain ⟨_, r81⟩ := t_rec tf1 hu0 (by decide) wf_60
            refine k_v (r_V C h hl (As := []) (rest := []) (s_X11_keepsX l D G b0 τ f1 tf1 u0 hu0 ac hac k2 bq hbq k3 kq hkq k4 rb k5 rk k6) r81 (Cn := RX11) (T := TX11) (N := 32) rfl rfl mk_X11_keeps w_1612 w_1614 w_50 w_1615 ⟨Nat.le_of_ble_eq_true rfl, Nat.le_of_ble_eq_true rfl⟩ rfl (Nat.le_of_ble_eq_true rfl) ⟨Nat.le_of_ble_eq_true rfl, Nat.le_of_ble_eq_true rfl⟩ rfl dX11_weigh_92) h (fun f83 H locs p84 h => ?_)
            obtain ⟨tf83, ogf83, ⟨ac1_f83, kpu0_10f83, ipu0_10f83, rpu0_10f83⟩, ⟨rk1_f83, kRkqf83, pRkqf83⟩⟩ := p84
            have of83 : Fr [60, 63, 65, 66, 60001, 60011] τ f f83 := Fr.tr of1 ogf83 (by decide) (by decide)
            have k85 := atp.fk k3 ogf83 hu0 (by decide) (by decide)
            have k86 := atp.fk k4 ogf83 hu0 (by decide) (by decide)
            have k87 := atp.fr k5 ogf83 hbq (by decide)
            refine lv_aload_n hx hb dX11_weigh_95 rfl (lv_at hl 1 rfl) ?_
            refine t_getfd C h tf83 hu0 (by decide) wf_60 (v := .ref bq) k85 fl_X11_17 dX11_weigh_96 ?_
            refine lv_bipush (v := 10) hx hb dX11_weigh_99 (by decide) ?_
            refine lv_iload_n hx hb dX11_weigh_101 rfl (lv_at hl 2 rfl) ?_
            refine i_cmul hx hb dX11_weigh_102 (k := 10) rfl i15 (lo := 0) (hi := 70) (by decide) (fun z88 ez88 mz88 iz88 => ?_)
            refine lv_iload_n hx hb dX11_weigh_103 rfl (lv_at hl 3 rfl) ?_
            refine i_add hx hb dX11_weigh_104 iz88 i34 (lo := 0) (hi := 77) (by decide) (fun z89 ez89 mz89 iz89 => ?_)
            refine lv_iload_n hx hb dX11_weigh_105 rfl (lv_at hl 4 rfl) ?_
            refine e_bkst C h tf83 of83 hbq (by decide) (by decide) wf_63 fw_63 k87 (Or.inl ⟨iv_w iz89 (by decide), (iv_w i70 (by decide))⟩) dX11_weigh_106 (fun R92 f90 erR92 H locs h tf90 of90 hq hn_ k91 => ?_)
            have k93 := atp.tg k85 hq hu0 (by decide)
            have k94 := atp.tg k86 hq hu0 (by decide)
            have k96 := atp.tg kpu0_10f83 hq hu0 (by decide)
            have k97 := atp.tg kRkqf83 hq hkq (by decide)
            refine lv_iload hx hb dX11_weigh_107 (lv_at hl 0 rfl) ?_
            exact u_iret C h hr hQ (⟨(iv_w ir74 (by decide)), tf90, of90, ⟨fun _ => (by omega), fun z_ => (z_ (by omega)).elim⟩, ⟨ac1_f83, k96, (iv_w ipu0_10f83 (by decide)), ⟨fun _ => (by omega), fun z_ => (z_ (by omega)).elim⟩⟩, ⟨R92, k91, (fun k hk => by
                rw [if_pos (by omega)]
                rw [erR92]; unfold we; by_cases q_ : k = z89.toInt.toNat
                · rw [upd_at q_, if_pos (by omega)]
                · rw [upd_off q_, if_neg (by omega)])⟩, ⟨rk1_f83, k97, (fun k hk => by rw [if_pos (by omega)]; exact pRkqf83 k hk)⟩⟩) (Nat.le_of_ble_eq_true rfl) (Nat.le_of_ble_eq_true rfl) dX11_weigh_109
          · have c79 : r74.toInt = u3.toInt := congrArg Int32.toInt c77
            have i80 : iv r74 1 9 := iv_Q c79 ir74 i70 (by decide)
            refine lv_aload_n hx hb dX11_weigh_85 rfl (lv_at hl 1 rfl) ?_
            refine lv_iconst (v := 3) hx hb dX11_weigh_86 (by decide) ?_
            obtain ⟨_, r98⟩ := t_rec tf1 hu0 (by decide) wf_60
            refine k_i (r_V C h hl (As := [.int 3]) (rest := []) (s_X11_refuse l D G b0 τ f1 tf1 u0 hu0 3 (iv_w (iv_k (x := 3) (k := 3) rfl) (by decide))) r98 (Cn := RX11) (T := TX11) (N := 32) rfl rfl mk_X11_refuse w_1604 w_1606 w_48 w_1607 ⟨Nat.le_of_ble_eq_true rfl, Nat.le_of_ble_eq_true rfl⟩ rfl (Nat.le_of_ble_eq_true rfl) ⟨Nat.le_of_ble_eq_true rfl, Nat.le_of_ble_eq_true rfl⟩ rfl dX11_weigh_87) h (fun r99 f100 H locs p101 h => ?_)
            obtain ⟨ir99, tf100, ogf100⟩ := p101
            have of100 : Fr [60, 63, 65, 66, 60001, 60011] τ f f100 := Fr.tr of1 ogf100 (by decide) (by decide)
            have k102 := atp.fr k2 ogf100 hu0 (by decide)
            have k103 := atp.fr k3 ogf100 hu0 (by decide)
            have k104 := atp.fr k4 ogf100 hu0 (by decide)
            have k105 := atp.fr k5 ogf100 hbq (by decide)
            have k106 := atp.fr k6 ogf100 hkq (by decide)
            exact u_iret C h hr hQ (⟨(iv_w ir99 (by decide)), tf100, of100, ⟨fun z_ => absurd z_ (by omega), fun _ => (by omega)⟩, ⟨ac, k102, hac, ⟨fun z_ => absurd z_ (by omega), fun _ => rfl⟩⟩, ⟨rb, k105, (fun k hk => by rw [if_neg (by omega)])⟩, ⟨rk, k106, (fun k hk => by rw [if_neg (by omega)])⟩⟩) (Nat.le_of_ble_eq_true rfl) (Nat.le_of_ble_eq_true rfl) dX11_weigh_90
        · have c71 : u3.toInt = 0 := congrArg Int32.toInt c68
          have i72 : iv u3 0 0 := iv_Q c71 i58 (iv_k (x := 0) (k := 0) rfl) (by decide)
          refine lv_aload_n hx hb dX11_weigh_47 rfl (lv_at hl 0 rfl) ?_
          refine lv_iload_n hx hb dX11_weigh_48 rfl (lv_at hl 1 rfl) ?_
          refine lv_iload_n hx hb dX11_weigh_49 rfl (lv_at hl 2 rfl) ?_
          obtain ⟨_, r107⟩ := t_rec tf1 hu0 (by decide) wf_60
          refine k_i (r_V C h hl (As := [.int u1, .int u2]) (rest := []) (s_X11_weightOfX l D G b0 τ f1 tf1 u0 hu0 u1 i15 u2 (iv_w i34 (by decide)) bq hbq k3 rb k5) r107 (Cn := RX11) (T := TX11) (N := 32) rfl rfl mk_X11_weightOf w_1631 w_1633 w_52 w_1634 ⟨Nat.le_of_ble_eq_true rfl, Nat.le_of_ble_eq_true rfl⟩ rfl (Nat.le_of_ble_eq_true rfl) ⟨Nat.le_of_ble_eq_true rfl, Nat.le_of_ble_eq_true rfl⟩ rfl dX11_weigh_50) h (fun r108 f109 H locs p110 h => ?_)
          obtain ⟨ir108, tf109, ogf109, x0r108, x1r108⟩ := p110
          have egf109 := Fr.nil2 ogf109
          subst egf109
          refine lv_if_le (tgt := 71) hx hb dX11_weigh_53 (by decide) (fun c111 => ?_) (fun c111 => ?_)
          · have c112 : r108.toInt ≤ 0 := Int32.le_iff_toInt_le.mp c111
            have i113 : iv r108 0 0 := iv_El c112 ir108 (iv_k (x := 0) (k := 0) rfl) (by decide)
            refine lv_aload_n hx hb dX11_weigh_71 rfl (lv_at hl 0 rfl) ?_
            refine lv_iload_n hx hb dX11_weigh_72 rfl (lv_at hl 1 rfl) ?_
            refine lv_iload_n hx hb dX11_weigh_73 rfl (lv_at hl 2 rfl) ?_
            obtain ⟨_, r116⟩ := t_rec tf1 hu0 (by decide) wf_60
            refine k_i (r_V C h hl (As := [.int u1, .int u2]) (rest := []) (s_X11_weightOfX l D G b0 τ f1 tf1 u0 hu0 u1 i15 u2 (iv_w i34 (by decide)) bq hbq k3 rb k5) r116 (Cn := RX11) (T := TX11) (N := 32) rfl rfl mk_X11_weightOf w_1631 w_1633 w_52 w_1634 ⟨Nat.le_of_ble_eq_true rfl, Nat.le_of_ble_eq_true rfl⟩ rfl (Nat.le_of_ble_eq_true rfl) ⟨Nat.le_of_ble_eq_true rfl, Nat.le_of_ble_eq_true rfl⟩ rfl dX11_weigh_74) h (fun r117 f118 H locs p119 h => ?_)
            obtain ⟨ir117, tf118, ogf118, x0r117, x1r117⟩ := p119
            have egf118 := Fr.nil2 ogf118
            subst egf118
            refine lv_istore (lv' := [(4, .int r117), (0, .ref u0), (1, .int u1), (2, .int u2), (3, .int u3)]) hx hb dX11_weigh_77 hl (by decide) rfl (fun ls hl => ?_)
            refine lv_iload hx hb dX11_weigh_79 (lv_at hl 0 rfl) ?_
            refine lv_iload_n hx hb dX11_weigh_81 rfl (lv_at hl 4 rfl) ?_
            refine lv_icmp_ne (tgt := 91) hx hb dX11_weigh_82 (by decide) (fun c120 => ?_) (fun c120 => ?_)
            · have c121 : r117.toInt ≠ u3.toInt := fun z_ => c120 (Int32.toInt_inj.mp z_)
              refine lv_aload_n hx hb dX11_weigh_91 rfl (lv_at hl 1 rfl) ?_
              obtain ⟨_, r124⟩ := t_rec tf1 hu0 (by decide) wf_60
              refine k_v (r_V C h hl (As := []) (rest := []) (s_X11_keepsX l D G b0 τ f1 tf1 u0 hu0 ac hac k2 bq hbq k3 kq hkq k4 rb k5 rk k6) r124 (Cn := RX11) (T := TX11) (N := 32) rfl rfl mk_X11_keeps w_1612 w_1614 w_50 w_1615 ⟨Nat.le_of_ble_eq_true rfl, Nat.le_of_ble_eq_true rfl⟩ rfl (Nat.le_of_ble_eq_true rfl) ⟨Nat.le_of_ble_eq_true rfl, Nat.le_of_ble_eq_true rfl⟩ rfl dX11_weigh_92) h (fun f126 H locs p127 h => ?_)
              obtain ⟨tf126, ogf126, ⟨ac1_f126, kpu0_10f126, ipu0_10f126, rpu0_10f126⟩, ⟨rk1_f126, kRkqf126, pRkqf126⟩⟩ := p127
              have of126 : Fr [60, 63, 65, 66, 60001, 60011] τ f f126 := Fr.tr of1 ogf126 (by decide) (by decide)
              have k128 := atp.fk k3 ogf126 hu0 (by decide) (by decide)
              have k129 := atp.fk k4 ogf126 hu0 (by decide) (by decide)
              have k130 := atp.fr k5 ogf126 hbq (by decide)
              refine lv_aload_n hx hb dX11_weigh_95 rfl (lv_at hl 1 rfl) ?_
              refine t_getfd C h tf126 hu0 (by decide) wf_60 (v := .ref bq) k128 fl_X11_17 dX11_weigh_96 ?_
              refine lv_bipush (v := 10) hx hb dX11_weigh_99 (by decide) ?_
              refine lv_iload_n hx hb dX11_weigh_101 rfl (lv_at hl 2 rfl) ?_
              refine i_cmul hx hb dX11_weigh_102 (k := 10) rfl i15 (lo := 0) (hi := 70) (by decide) (fun z131 ez131 mz131 iz131 => ?_)
              refine lv_iload_n hx hb dX11_weigh_103 rfl (lv_at hl 3 rfl) ?_
              refine i_add hx hb dX11_weigh_104 iz131 i34 (lo := 0) (hi := 77) (by decide) (fun z132 ez132 mz132 iz132 => ?_)
              refine lv_iload_n hx hb dX11_weigh_105 rfl (lv_at hl 4 rfl) ?_
              refine e_bkst C h tf126 of126 hbq (by decide) (by decide) wf_63 fw_63 k130 (Or.inl ⟨iv_w iz132 (by decide), (iv_w i72 (by decide))⟩) dX11_weigh_106 (fun R135 f133 erR135 H locs h tf133 of133 hq hn_ k134 => ?_)
              have k136 := atp.tg k128 hq hu0 (by decide)
              have k137 := atp.tg k129 hq hu0 (by decide)
              have k139 := atp.tg kpu0_10f126 hq hu0 (by decide)
              have k140 := atp.tg kRkqf126 hq hkq (by decide)
              refine lv_iload hx hb dX11_weigh_107 (lv_at hl 0 rfl) ?_
              exact u_iret C h hr hQ (⟨(iv_w ir117 (by decide)), tf133, of133, ⟨fun _ => (by omega), fun z_ => (z_ (by omega)).elim⟩, ⟨ac1_f126, k139, (iv_w ipu0_10f126 (by decide)), ⟨fun _ => (by omega), fun z_ => (z_ (by omega)).elim⟩⟩, ⟨R135, k134, (fun k hk => by
                  rw [if_pos (by omega)]
                  rw [erR135]; unfold we; by_cases q_ : k = z132.toInt.toNat
                  · rw [upd_at q_, if_pos (by omega)]
                  · rw [upd_off q_, if_neg (by omega)])⟩, ⟨rk1_f126, k140, (fun k hk => by rw [if_pos (by omega)]; exact pRkqf126 k hk)⟩⟩) (Nat.le_of_ble_eq_true rfl) (Nat.le_of_ble_eq_true rfl) dX11_weigh_109
            · have c122 : r117.toInt = u3.toInt := congrArg Int32.toInt c120
              have i123 : iv r117 0 0 := iv_Q c122 ir117 i72 (by decide)
              refine lv_aload_n hx hb dX11_weigh_85 rfl (lv_at hl 1 rfl) ?_
              refine lv_iconst (v := 3) hx hb dX11_weigh_86 (by decide) ?_
              obtain ⟨_, r141⟩ := t_rec tf1 hu0 (by decide) wf_60
              refine k_i (r_V C h hl (As := [.int 3]) (rest := []) (s_X11_refuse l D G b0 τ f1 tf1 u0 hu0 3 (iv_w (iv_k (x := 3) (k := 3) rfl) (by decide))) r141 (Cn := RX11) (T := TX11) (N := 32) rfl rfl mk_X11_refuse w_1604 w_1606 w_48 w_1607 ⟨Nat.le_of_ble_eq_true rfl, Nat.le_of_ble_eq_true rfl⟩ rfl (Nat.le_of_ble_eq_true rfl) ⟨Nat.le_of_ble_eq_true rfl, Nat.le_of_ble_eq_true rfl⟩ rfl dX11_weigh_87) h (fun r142 f143 H locs p144 h => ?_)
              obtain ⟨ir142, tf143, ogf143⟩ := p144
              have of143 : Fr [60, 63, 65, 66, 60001, 60011] τ f f143 := Fr.tr of1 ogf143 (by decide) (by decide)
              have k145 := atp.fr k2 ogf143 hu0 (by decide)
              have k146 := atp.fr k3 ogf143 hu0 (by decide)
              have k147 := atp.fr k4 ogf143 hu0 (by decide)
              have k148 := atp.fr k5 ogf143 hbq (by decide)
              have k149 := atp.fr k6 ogf143 hkq (by decide)
              exact u_iret C h hr hQ (⟨(iv_w ir142 (by decide)), tf143, of143, ⟨fun z_ => absurd z_ (by omega), fun _ => (by omega)⟩, ⟨ac, k145, hac, ⟨fun z_ => absurd z_ (by omega), fun _ => rfl⟩⟩, ⟨rb, k148, (fun k hk => by rw [if_neg (by omega)])⟩, ⟨rk, k149, (fun k hk => by rw [if_neg (by omega)])⟩⟩) (Nat.le_of_ble_eq_true rfl) (Nat.le_of_ble_eq_true rfl) dX11_weigh_90
          · have c114 : 0 < r108.toInt := Int32.lt_iff_toInt_lt.mp (iv_nle c111)
            have i115 : iv r108 1 9 := iv_Lr c114 (iv_k (x := 0) (k := 0) rfl) ir108 (by decide)
            refine lv_aload_n hx hb dX11_weigh_56 rfl (lv_at hl 0 rfl) ?_
            refine lv_iload_n hx hb dX11_weigh_57 rfl (lv_at hl 1 rfl) ?_
            obtain ⟨_, r150⟩ := t_rec tf1 hu0 (by decide) wf_60
            refine k_i (r_V C h hl (As := [.int u1]) (rest := []) (s_X11_stepsOfX l D G b0 τ f1 tf1 u0 hu0 u1 i15 bq hbq k3 rb k5) r150 (Cn := RX11) (T := TX11) (N := 32) rfl rfl mk_X11_stepsOf w_1658 w_1660 w_54 w_1661 ⟨Nat.le_of_ble_eq_true rfl, Nat.le_of_ble_eq_true rfl⟩ rfl (Nat.le_of_ble_eq_true rfl) ⟨Nat.le_of_ble_eq_true rfl, Nat.le_of_ble_eq_true rfl⟩ rfl dX11_weigh_58) h (fun r151 f152 H locs p153 h => ?_)
            obtain ⟨ir151, tf152, ogf152, x0r151⟩ := p153
            have egf152 := Fr.nil2 ogf152
            subst egf152
            refine lv_iconst (v := 1) hx hb dX11_weigh_61 (by decide) ?_
            refine lv_icmp_ne (tgt := 71) hx hb dX11_weigh_62 (by decide) (fun c154 => ?_) (fun c154 => ?_)
            · have c155 : r151.toInt ≠ 1 := fun z_ => c154 (Int32.toInt_inj.mp z_)
              refine lv_aload_n hx hb dX11_weigh_71 rfl (lv_at hl 0 rfl) ?_
              refine lv_iload_n hx hb dX11_weigh_72 rfl (lv_at hl 1 rfl) ?_
              refine lv_iload_n hx hb dX11_weigh_73 rfl (lv_at hl 2 rfl) ?_
              obtain ⟨_, r158⟩ := t_rec tf1 hu0 (by decide) wf_60
              refine k_i (r_V C h hl (As := [.int u1, .int u2]) (rest := []) (s_X11_weightOfX l D G b0 τ f1 tf1 u0 hu0 u1 i15 u2 (iv_w i34 (by decide)) bq hbq k3 rb k5) r158 (Cn := RX11) (T := TX11) (N := 32) rfl rfl mk_X11_weightOf w_1631 w_1633 w_52 w_1634 ⟨Nat.le_of_ble_eq_true rfl, Nat.le_of_ble_eq_true rfl⟩ rfl (Nat.le_of_ble_eq_true rfl) ⟨Nat.le_of_ble_eq_true rfl, Nat.le_of_ble_eq_true rfl⟩ rfl dX11_weigh_74) h (fun r159 f160 H locs p161 h => ?_)
              obtain ⟨ir159, tf160, ogf160, x0r159, x1r159⟩ := p161
              have egf160 := Fr.nil2 ogf160
              subst egf160
              refine lv_istore (lv' := [(4, .int r159), (0, .ref u0), (1, .int u1), (2, .int u2), (3, .int u3)]) hx hb dX11_weigh_77 hl (by decide) rfl (fun ls hl => ?_)
              refine lv_iload hx hb dX11_weigh_79 (lv_at hl 0 rfl) ?_
              refine lv_iload_n hx hb dX11_weigh_81 rfl (lv_at hl 4 rfl) ?_
              refine lv_icmp_ne (tgt := 91) hx hb dX11_weigh_82 (by decide) (fun c162 => ?_) (fun c162 => ?_)
              · have c163 : r159.toInt ≠ u3.toInt := fun z_ => c162 (Int32.toInt_inj.mp z_)
                refine lv_aload_n hx hb dX11_weigh_91 rfl (lv_at hl 1 rfl) ?_
                obtain ⟨_, r166⟩ := t_rec tf1 hu0 (by decide) wf_60
                refine k_v (r_V C h hl (As := []) (rest := []) (s_X11_keepsX l D G b0 τ f1 tf1 u0 hu0 ac hac k2 bq hbq k3 kq hkq k4 rb k5 rk k6) r166 (Cn := RX11) (T := TX11) (N := 32) rfl rfl mk_X11_keeps w_1612 w_1614 w_50 w_1615 ⟨Nat.le_of_ble_eq_true rfl, Nat.le_of_ble_eq_true rfl⟩ rfl (Nat.le_of_ble_eq_true rfl) ⟨Nat.le_of_ble_eq_true rfl, Nat.le_of_ble_eq_true rfl⟩ rfl dX11_weigh_92) h (fun f168 H locs p169 h => ?_)
                obtain ⟨tf168, ogf168, ⟨ac1_f168, kpu0_10f168, ipu0_10f168, rpu0_10f168⟩, ⟨rk1_f168, kRkqf168, pRkqf168⟩⟩ := p169
                have of168 : Fr [60, 63, 65, 66, 60001, 60011] τ f f168 := Fr.tr of1 ogf168 (by decide) (by decide)
                have k170 := atp.fk k3 ogf168 hu0 (by decide) (by decide)
                have k171 := atp.fk k4 ogf168 hu0 (by decide) (by decide)
                have k172 := atp.fr k5 ogf168 hbq (by decide)
                refine lv_aload_n hx hb dX11_weigh_95 rfl (lv_at hl 1 rfl) ?_
                refine t_getfd C h tf168 hu0 (by decide) wf_60 (v := .ref bq) k170 fl_X11_17 dX11_weigh_96 ?_
                refine lv_bipush (v := 10) hx hb dX11_weigh_99 (by decide) ?_
                refine lv_iload_n hx hb dX11_weigh_101 rfl (lv_at hl 2 rfl) ?_
                refine i_cmul hx hb dX11_weigh_102 (k := 10) rfl i15 (lo := 0) (hi := 70) (by decide) (fun z173 ez173 mz173 iz173 => ?_)
                refine lv_iload_n hx hb dX11_weigh_103 rfl (lv_at hl 3 rfl) ?_
                refine i_add hx hb dX11_weigh_104 iz173 i34 (lo := 0) (hi := 77) (by decide) (fun z174 ez174 mz174 iz174 => ?_)
                refine lv_iload_n hx hb dX11_weigh_105 rfl (lv_at hl 4 rfl) ?_
                refine e_bkst C h tf168 of168 hbq (by decide) (by decide) wf_63 fw_63 k172 (Or.inl ⟨iv_w iz174 (by decide), (iv_w i72 (by decide))⟩) dX11_weigh_106 (fun R177 f175 erR177 H locs h tf175 of175 hq hn_ k176 => ?_)
                have k178 := atp.tg k170 hq hu0 (by decide)
                have k179 := atp.tg k171 hq hu0 (by decide)
                have k181 := atp.tg kpu0_10f168 hq hu0 (by decide)
                have k182 := atp.tg kRkqf168 hq hkq (by decide)
                refine lv_iload hx hb dX11_weigh_107 (lv_at hl 0 rfl) ?_
                exact u_iret C h hr hQ (⟨(iv_w ir159 (by decide)), tf175, of175, ⟨fun _ => (by omega), fun z_ => (z_ (by omega)).elim⟩, ⟨ac1_f168, k181, (iv_w ipu0_10f168 (by decide)), ⟨fun _ => (by omega), fun z_ => (z_ (by omega)).elim⟩⟩, ⟨R177, k176, (fun k hk => by
                    rw [if_pos (by omega)]
                    rw [erR177]; unfold we; by_cases q_ : k = z174.toInt.toNat
                    · rw [upd_at q_, if_pos (by omega)]
                    · rw [upd_off q_, if_neg (by omega)])⟩, ⟨rk1_f168, k182, (fun k hk => by rw [if_pos (by omega)]; exact pRkqf168 k hk)⟩⟩) (Nat.le_of_ble_eq_true rfl) (Nat.le_of_ble_eq_true rfl) dX11_weigh_109
              · have c164 : r159.toInt = u3.toInt := congrArg Int32.toInt c162
                have i165 : iv r159 0 0 := iv_Q c164 ir159 i72 (by decide)
                refine lv_aload_n hx hb dX11_weigh_85 rfl (lv_at hl 1 rfl) ?_
                refine lv_iconst (v := 3) hx hb dX11_weigh_86 (by decide) ?_
                obtain ⟨_, r183⟩ := t_rec tf1 hu0 (by decide) wf_60
                refine k_i (r_V C h hl (As := [.int 3]) (rest := []) (s_X11_refuse l D G b0 τ f1 tf1 u0 hu0 3 (iv_w (iv_k (x := 3) (k := 3) rfl) (by decide))) r183 (Cn := RX11) (T := TX11) (N := 32) rfl rfl mk_X11_refuse w_1604 w_1606 w_48 w_1607 ⟨Nat.le_of_ble_eq_true rfl, Nat.le_of_ble_eq_true rfl⟩ rfl (Nat.le_of_ble_eq_true rfl) ⟨Nat.le_of_ble_eq_true rfl, Nat.le_of_ble_eq_true rfl⟩ rfl dX11_weigh_87) h (fun r184 f185 H locs p186 h => ?_)
                obtain ⟨ir184, tf185, ogf185⟩ := p186
                have of185 : Fr [60, 63, 65, 66, 60001, 60011] τ f f185 := Fr.tr of1 ogf185 (by decide) (by decide)
                have k187 := atp.fr k2 ogf185 hu0 (by decide)
                have k188 := atp.fr k3 ogf185 hu0 (by decide)
                have k189 := atp.fr k4 ogf185 hu0 (by decide)
                have k190 := atp.fr k5 ogf185 hbq (by decide)
                have k191 := atp.fr k6 ogf185 hkq (by decide)
                exact u_iret C h hr hQ (⟨(iv_w ir184 (by decide)), tf185, of185, ⟨fun z_ => absurd z_ (by omega), fun _ => (by omega)⟩, ⟨ac, k187, hac, ⟨fun z_ => absurd z_ (by omega), fun _ => rfl⟩⟩, ⟨rb, k190, (fun k hk => by rw [if_neg (by omega)])⟩, ⟨rk, k191, (fun k hk => by rw [if_neg (by omega)])⟩⟩) (Nat.le_of_ble_eq_true rfl) (Nat.le_of_ble_eq_true rfl) dX11_weigh_90
            · have c156 : r151.toInt = 1 := congrArg Int32.toInt c154
              have i157 : iv r151 1 1 := iv_Q c156 ir151 (iv_k (x := 1) (k := 1) rfl) (by decide)
              refine lv_aload_n hx hb dX11_weigh_65 rfl (lv_at hl 0 rfl) ?_
              refine lv_iconst (v := 1) hx hb dX11_weigh_66 (by decide) ?_
              obtain ⟨_, r192⟩ := t_rec tf1 hu0 (by decide) wf_60
              refine k_i (r_V C h hl (As := [.int 1]) (rest := []) (s_X11_refuse l D G b0 τ f1 tf1 u0 hu0 1 (iv_w (iv_k (x := 1) (k := 1) rfl) (by decide))) r192 (Cn := RX11) (T := TX11) (N := 32) rfl rfl mk_X11_refuse w_1604 w_1606 w_48 w_1607 ⟨Nat.le_of_ble_eq_true rfl, Nat.le_of_ble_eq_true rfl⟩ rfl (Nat.le_of_ble_eq_true rfl) ⟨Nat.le_of_ble_eq_true rfl, Nat.le_of_ble_eq_true rfl⟩ rfl dX11_weigh_67) h (fun r193 f194 H locs p195 h => ?_)
              obtain ⟨ir193, tf194, ogf194⟩ := p195
              have of194 : Fr [60, 63, 65, 66, 60001, 60011] τ f f194 := Fr.tr of1 ogf194 (by decide) (by decide)
              have k196 := atp.fr k2 ogf194 hu0 (by decide)
              have k197 := atp.fr k3 ogf194 hu0 (by decide)
              have k198 := atp.fr k4 ogf194 hu0 (by decide)
              have k199 := atp.fr k5 ogf194 hbq (by decide)
              have k200 := atp.fr k6 ogf194 hkq (by decide)
              exact u_iret C h hr hQ (⟨(iv_w ir193 (by decide)), tf194, of194, ⟨fun z_ => absurd z_ (by omega), fun _ => (by omega)⟩, ⟨ac, k196, hac, ⟨fun z_ => absurd z_ (by omega), fun _ => rfl⟩⟩, ⟨rb, k199, (fun k hk => by rw [if_neg (by omega)])⟩, ⟨rk, k200, (fun k hk => by rw [if_neg (by omega)])⟩⟩) (Nat.le_of_ble_eq_true rfl) (Nat.le_of_ble_eq_true rfl) dX11_weigh_70
  · have c17 : r9.toInt = 0 := congrArg Int32.toInt c12
    have i18 : iv r9 0 0 := iv_Q c17 ir9 (iv_k (x := 0) (k := 0) rfl) (by decide)
    have i19 := czr9 c17
    refine lv_aload_n hx hb dX11_weigh_13 rfl (lv_at hl 0 rfl) ?_
    refine lv_iconst (v := 0) hx hb dX11_weigh_14 (by decide) ?_
    obtain ⟨_, r201⟩ := t_rec tf1 hu0 (by decide) wf_60
    refine k_i (r_V C h hl (As := [.int 0]) (rest := []) (s_X11_refuse l D G b0 τ f1 tf1 u0 hu0 0 (iv_w (iv_k (x := 0) (k := 0) rfl) (by decide))) r201 (Cn := RX11) (T := TX11) (N := 32) rfl rfl mk_X11_refuse w_1604 w_1606 w_48 w_1607 ⟨Nat.le_of_ble_eq_true rfl, Nat.le_of_ble_eq_true rfl⟩ rfl (Nat.le_of_ble_eq_true rfl) ⟨Nat.le_of_ble_eq_true rfl, Nat.le_of_ble_eq_true rfl⟩ rfl dX11_weigh_15) h (fun r202 f203 H locs p204 h => ?_)
    obtain ⟨ir202, tf203, ogf203⟩ := p204
    have of203 : Fr [60, 63, 65, 66, 60001, 60011] τ f f203 := Fr.tr of1 ogf203 (by decide) (by decide)
    have k205 := atp.fr k2 ogf203 hu0 (by decide)
    have k206 := atp.fr k3 ogf203 hu0 (by decide)
    have k207 := atp.fr k4 ogf203 hu0 (by decide)
    have k208 := atp.fr k5 ogf203 hbq (by decide)
    have k209 := atp.fr k6 ogf203 hkq (by decide)
    exact u_iret C h hr hQ (⟨(iv_w ir202 (by decide)), tf203, of203, ⟨fun z_ => absurd z_ (by omega), fun _ => (by omega)⟩, ⟨ac, k205, hac, ⟨fun z_ => absurd z_ (by omega), fun _ => rfl⟩⟩, ⟨rb, k208, (fun k hk => by rw [if_neg (by omega)])⟩, ⟨rk, k209, (fun k hk => by rw [if_neg (by omega)])⟩⟩) (Nat.le_of_ble_eq_true rfl) (Nat.le_of_ble_eq_true rfl) dX11_weigh_18
abbrev rm_s_X11_startX : Room := { frames := 2, cells := 0, slots := 0, locals := 46 }
set_option maxRecDepth 100000 in
set_option maxHeartbeats 4000000 in
theorem s_X11_startX (l : Launch) (D : va_G) (G : Nat → Nat) (b0 : Nat) (τ : Nat → Nat) (f : hM) (t : TI G 9 τ f) (u0 : Nat) (hu0 : τ u0 = 60) (u1 : Int32) (hu1 : iv u1 (-2147483648) 2147483647) (u2 : Int32) (hu2 : iv u2 (-2147483648) 2147483647) (u3 : Int32) (hu3 : iv u3 (-2147483648) 2147483647) (ac : Int32) (hac : iv ac 0 12) (k_u0_10 : atp f u0 (fd 10 (.int ac))) (bq : Nat) (hbq : τ bq = 63) (k_u0_6 : atp f u0 (fd 6 (.ref bq))) (kq : Nat) (hkq : τ kq = 65) (k_u0_8 : atp f u0 (fd 8 (.ref kq))) (rb : Nat → Int32) (hRbq : atp f bq (eqc (.inl (G 1, 81, .inl rb)))) (rk : Nat → Int32) (hRkq : atp f kq (eqc (.inl (G 1, 972, .inl rk)))) : mI l yX11_start cX11_start 5 (.int) rm_s_X11_startX D G b0 f [.ref u0, .int u1, .int u2, .int u3] (fun r f1 => iv r (-1) 99 ∧ TI G 9 τ f1 ∧ Fr [60, 63, 65, 66, 60001, 60011] τ f f1 ∧ (((((0 ≤ u1.toInt ∧ u1.toInt < (rb 80).toInt) ∧ (0 ≤ u2.toInt ∧ u2.toInt ≤ 9) ∧ (0 ≤ u3.toInt ∧ u3.toInt ≤ 9) ∧ ¬ ((rb (10 * u1.toInt + 8).toNat).toInt = u2.toInt ∧ (rb (10 * u1.toInt + 9).toNat).toInt = u3.toInt))) → r.toInt = 10 * (rb (10 * u1.toInt + 8).toNat).toInt + (rb (10 * u1.toInt + 9).toNat).toInt) ∧ (¬ (((0 ≤ u1.toInt ∧ u1.toInt < (rb 80).toInt) ∧ (0 ≤ u2.toInt ∧ u2.toInt ≤ 9) ∧ (0 ≤ u3.toInt ∧ u3.toInt ≤ 9) ∧ ¬ ((rb (10 * u1.toInt + 8).toNat).toInt = u2.toInt ∧ (rb (10 * u1.toInt + 9).toNat).toInt = u3.toInt))) → r.toInt = -1)) ∧ (∃ ac1 : Int32, atp f1 u0 (fd 10 (.int ac1)) ∧ iv ac1 0 12 ∧ ((((0 ≤ u1.toInt ∧ u1.toInt < (rb 80).toInt) ∧ (0 ≤ u2.toInt ∧ u2.toInt ≤ 9) ∧ (0 ≤ u3.toInt ∧ u3.toInt ≤ 9) ∧ ¬ ((rb (10 * u1.toInt + 8).toNat).toInt = u2.toInt ∧ (rb (10 * u1.toInt + 9).toNat).toInt = u3.toInt))) → ((ac.toInt = 12 → ac1.toInt = 12) ∧ (ac.toInt ≠ 12 → ac1.toInt = ac.toInt + 1))) ∧ (¬ (((0 ≤ u1.toInt ∧ u1.toInt < (rb 80).toInt) ∧ (0 ≤ u2.toInt ∧ u2.toInt ≤ 9) ∧ (0 ≤ u3.toInt ∧ u3.toInt ≤ 9) ∧ ¬ ((rb (10 * u1.toInt + 8).toNat).toInt = u2.toInt ∧ (rb (10 * u1.toInt + 9).toNat).toInt = u3.toInt))) → ac1.toInt = ac.toInt)) ∧ (∃ rb1 : Nat → Int32, atp f1 bq (eqc (.inl (G 1, 81, .inl rb1))) ∧ (∀ k : Nat, k < 81 → rb1 k = if ((0 ≤ u1.toInt ∧ u1.toInt < (rb 80).toInt) ∧ (0 ≤ u2.toInt ∧ u2.toInt ≤ 9) ∧ (0 ≤ u3.toInt ∧ u3.toInt ≤ 9) ∧ ¬ ((rb (10 * u1.toInt + 8).toNat).toInt = u2.toInt ∧ (rb (10 * u1.toInt + 9).toNat).toInt = u3.toInt)) then so rb u1.toInt u2 u3 k else rb k)) ∧ (∃ rk1 : Nat → Int32, atp f1 kq (eqc (.inl (G 1, 972, .inl rk1))) ∧ (∀ k : Nat, k < 972 → rk1 k = if ((0 ≤ u1.toInt ∧ u1.toInt < (rb 80).toInt) ∧ (0 ≤ u2.toInt ∧ u2.toInt ≤ 9) ∧ (0 ≤ u3.toInt ∧ u3.toInt ≤ 9) ∧ ¬ ((rb (10 * u1.toInt + 8).toNat).toInt = u2.toInt ∧ (rb (10 * u1.toInt + 9).toNat).toInt = u3.toInt)) then kp rk rb ac.toInt k else rk k))) := by
  refine met2 (own := RX11) (by decide) rfl (Nat.le_of_ble_eq_true rfl) ?_
  intro p e s m args below meth c ls Q hQ C hr hini hl h
  have hl : lv_has ls 5 [(0, .ref u0), (1, .int u1), (2, .int u2), (3, .int u3)] := hl
  obtain ⟨hx, hb, hml, hown, hts, hE0, hlk⟩ := id C
  have o := Fr.rf [60, 63, 65, 66, 60001, 60011] τ f
  refine lv_aload_n hx hb dX11_start_0 rfl (lv_at hl 0 rfl) ?_
  refine lv_iconst (v := 0) hx hb dX11_start_1 (by decide) ?_
  refine t_put C h t o hu0 (by decide) (by decide) (by decide) wf_60 fw_60 (k := 0) rfl flw_X11_75 (Or.inr ⟨_, _, _, rfl, rfl⟩) (v := .int 0) rfl rfl ⟨_, rfl, ⟨by decide, by decide⟩⟩ dX11_start_2 (fun f1 H locs h tf1 of1 hq ha_ hn_ hk_ => ?_)
  have k2 := hk_ 10 _ (by decide) k_u0_10
  have k3 := hk_ 6 _ (by decide) k_u0_6
  have k4 := hk_ 8 _ (by decide) k_u0_8
  have k5 := atp.tg hRbq hq hbq (by decide)
  have k6 := atp.tg hRkq hq hkq (by decide)
  have k7 := ha_
  refine lv_aload_n hx hb dX11_start_5 rfl (lv_at hl 0 rfl) ?_
  refine lv_iload_n hx hb dX11_start_6 rfl (lv_at hl 1 rfl) ?_
  obtain ⟨_, r8⟩ := t_rec tf1 hu0 (by decide) wf_60
  refine k_i (r_V C h hl (As := [.int u1]) (rest := []) (s_X11_isSetX l D G b0 τ f1 tf1 u0 hu0 u1 hu1 bq hbq k3 rb k5) r8 (Cn := RX11) (T := TX11) (N := 32) rfl rfl mk_X11_isSet w_1620 w_1622 w_51 w_1623 ⟨Nat.le_of_ble_eq_true rfl, Nat.le_of_ble_eq_true rfl⟩ rfl (Nat.le_of_ble_eq_true rfl) ⟨Nat.le_of_ble_eq_true rfl, Nat.le_of_ble_eq_true rfl⟩ rfl dX11_start_7) h (fun r9 f10 H locs p11 h => ?_)
  obtain ⟨ir9, tf10, ogf10, cnr9, czr9⟩ := p11
  have egf10 := Fr.nil2 ogf10
  subst egf10
  refine lv_if_ne (tgt := 19) hx hb dX11_start_10 (by decide) (fun c12 => ?_) (fun c12 => ?_)
  · have c13 : r9.toInt ≠ 0 := fun z_ => c12 (Int32.toInt_inj.mp z_)
    have i14 : iv r9 1 1 := iv_Nl c13 ir9 (by decide)
    obtain ⟨i15, i16⟩ := cnr9 c13
    refine lv_iload_n hx hb dX11_start_19 rfl (lv_at hl 2 rfl) ?_
    refine lv_i2l hx hb dX11_start_20 rfl (i_topL hu2 (fun w20 ew20 mw20 iw20 => ?_))
    refine lv_lconst (v := 0) hx hb dX11_start_21 (by decide) ?_
    refine lv_ldc2 (v := 9) hx hb hown (hts _ w_1648) dX11_start_22 ?_
    refine k_i (r_S C h hl (As := [.long w20, .long 0, .long 9]) (rest := []) (s_X11_isInX l D G b0 τ f1 tf1 w20 0 9) mk_X11_isIn w_1624 w_1625 w_1626 ⟨Nat.le_of_ble_eq_true rfl, Nat.le_of_ble_eq_true rfl⟩ rfl (Nat.le_of_ble_eq_true rfl) ⟨Nat.le_of_ble_eq_true rfl, Nat.le_of_ble_eq_true rfl⟩ rfl dX11_start_25) h (fun r21 f22 H locs p23 h => ?_)
    have n24 : (0 : Int64).toInt = 0 := rfl
    have n25 : (9 : Int64).toInt = 9 := rfl
    obtain ⟨ir21, tf22, ogf22, cnr21, czr21⟩ := p23
    have egf22 := Fr.nil2 ogf22
    subst egf22
    refine lv_if_eq (tgt := 43) hx hb dX11_start_28 (by decide) (fun c26 => ?_) (fun c26 => ?_)
    · have c27 : r21.toInt = 0 := congrArg Int32.toInt c26
      have i28 : iv r21 0 0 := iv_Q c27 ir21 (iv_k (x := 0) (k := 0) rfl) (by decide)
      have i29 := czr21 c27
      refine lv_aload_n hx hb dX11_start_43 rfl (lv_at hl 0 rfl) ?_
      refine lv_iconst (v := 1) hx hb dX11_start_44 (by decide) ?_
      obtain ⟨_, r35⟩ := t_rec tf1 hu0 (by decide) wf_60
      refine k_i (r_V C h hl (As := [.int 1]) (rest := []) (s_X11_refuse l D G b0 τ f1 tf1 u0 hu0 1 (iv_w (iv_k (x := 1) (k := 1) rfl) (by decide))) r35 (Cn := RX11) (T := TX11) (N := 32) rfl rfl mk_X11_refuse w_1604 w_1606 w_48 w_1607 ⟨Nat.le_of_ble_eq_true rfl, Nat.le_of_ble_eq_true rfl⟩ rfl (Nat.le_of_ble_eq_true rfl) ⟨Nat.le_of_ble_eq_true rfl, Nat.le_of_ble_eq_true rfl⟩ rfl dX11_start_45) h (fun r36 f37 H locs p38 h => ?_)
      obtain ⟨ir36, tf37, ogf37⟩ := p38
      have of37 : Fr [60, 63, 65, 66, 60001, 60011] τ f f37 := Fr.tr of1 ogf37 (by decide) (by decide)
      have k39 := atp.fr k2 ogf37 hu0 (by decide)
      have k40 := atp.fr k3 ogf37 hu0 (by decide)
      have k41 := atp.fr k4 ogf37 hu0 (by decide)
      have k42 := atp.fr k5 ogf37 hbq (by decide)
      have k43 := atp.fr k6 ogf37 hkq (by decide)
      exact u_iret C h hr hQ (⟨(iv_w ir36 (by decide)), tf37, of37, ⟨fun z_ => absurd z_ (by omega), fun _ => (by omega)⟩, ⟨ac, k39, hac, ⟨fun z_ => absurd z_ (by omega), fun _ => rfl⟩⟩, ⟨rb, k42, (fun k hk => by rw [if_neg (by omega)])⟩, ⟨rk, k43, (fun k hk => by rw [if_neg (by omega)])⟩⟩) (Nat.le_of_ble_eq_true rfl) (Nat.le_of_ble_eq_true rfl) dX11_start_48
    · have c30 : r21.toInt ≠ 0 := fun z_ => c26 (Int32.toInt_inj.mp z_)
      have i31 : iv r21 1 1 := iv_Nl c30 ir21 (by decide)
      obtain ⟨i32, i33⟩ := cnr21 c30
      have i34 : iv u2 0 9 := ⟨by omega, by omega⟩
      refine lv_iload_n hx hb dX11_start_31 rfl (lv_at hl 3 rfl) ?_
      refine lv_i2l hx hb dX11_start_32 rfl (i_topL hu3 (fun w44 ew44 mw44 iw44 => ?_))
      refine lv_lconst (v := 0) hx hb dX11_start_33 (by decide) ?_
      refine lv_ldc2 (v := 9) hx hb hown (hts _ w_1648) dX11_start_34 ?_
      refine k_i (r_S C h hl (As := [.long w44, .long 0, .long 9]) (rest := []) (s_X11_isInX l D G b0 τ f1 tf1 w44 0 9) mk_X11_isIn w_1624 w_1625 w_1626 ⟨Nat.le_of_ble_eq_true rfl, Nat.le_of_ble_eq_true rfl⟩ rfl (Nat.le_of_ble_eq_true rfl) ⟨Nat.le_of_ble_eq_true rfl, Nat.le_of_ble_eq_true rfl⟩ rfl dX11_start_37) h (fun r45 f46 H locs p47 h => ?_)
      have n48 : (0 : Int64).toInt = 0 := rfl
      have n49 : (9 : Int64).toInt = 9 := rfl
      obtain ⟨ir45, tf46, ogf46, cnr45, czr45⟩ := p47
      have egf46 := Fr.nil2 ogf46
      subst egf46
      refine lv_if_ne (tgt := 49) hx hb dX11_start_40 (by decide) (fun c50 => ?_) (fun c50 => ?_)
      · have c51 : r45.toInt ≠ 0 := fun z_ => c50 (Int32.toInt_inj.mp z_)
        have i52 : iv r45 1 1 := iv_Nl c51 ir45 (by decide)
        obtain ⟨i53, i54⟩ := cnr45 c51
        have i55 : iv u3 0 9 := ⟨by omega, by omega⟩
        refine lv_bipush (v := 10) hx hb dX11_start_49 (by decide) ?_
        refine lv_aload_n hx hb dX11_start_51 rfl (lv_at hl 0 rfl) ?_
        refine lv_iload_n hx hb dX11_start_52 rfl (lv_at hl 1 rfl) ?_
        refine lv_bipush (v := 8) hx hb dX11_start_53 (by decide) ?_
        obtain ⟨_, r59⟩ := t_rec tf1 hu0 (by decide) wf_60
        refine k_i (r_V C h hl (As := [.int u1, .int 8]) (rest := [.int 10]) (s_X11_weightOfX l D G b0 τ f1 tf1 u0 hu0 u1 i15 8 (iv_w (iv_k (x := 8) (k := 8) rfl) (by decide)) bq hbq k3 rb k5) r59 (Cn := RX11) (T := TX11) (N := 32) rfl rfl mk_X11_weightOf w_1631 w_1633 w_52 w_1634 ⟨Nat.le_of_ble_eq_true rfl, Nat.le_of_ble_eq_true rfl⟩ rfl (Nat.le_of_ble_eq_true rfl) ⟨Nat.le_of_ble_eq_true rfl, Nat.le_of_ble_eq_true rfl⟩ rfl dX11_start_55) h (fun r60 f61 H locs p62 h => ?_)
        have n63 : (8 : Int32).toInt = 8 := rfl
        obtain ⟨ir60, tf61, ogf61, x0r60, x1r60⟩ := p62
        have x0r60 : r60 = (rb (10 * u1.toInt + 8).toNat) := x0r60
        have x1r60 : r60.toInt = (rb (10 * u1.toInt + 8).toNat).toInt := x1r60
        have egf61 := Fr.nil2 ogf61
        subst egf61
        refine i_cmul hx hb dX11_start_58 (k := 10) rfl ir60 (lo := 0) (hi := 90) (by decide) (fun z64 ez64 mz64 iz64 => ?_)
        refine lv_aload_n hx hb dX11_start_59 rfl (lv_at hl 0 rfl) ?_
        refine lv_iload_n hx hb dX11_start_60 rfl (lv_at hl 1 rfl) ?_
        refine lv_bipush (v := 9) hx hb dX11_start_61 (by decide) ?_
        obtain ⟨_, r65⟩ := t_rec tf1 hu0 (by decide) wf_60
        refine k_i (r_V C h hl (As := [.int u1, .int 9]) (rest := [.int z64]) (s_X11_weightOfX l D G b0 τ f1 tf1 u0 hu0 u1 i15 9 (iv_w (iv_k (x := 9) (k := 9) rfl) (by decide)) bq hbq k3 rb k5) r65 (Cn := RX11) (T := TX11) (N := 32) rfl rfl mk_X11_weightOf w_1631 w_1633 w_52 w_1634 ⟨Nat.le_of_ble_eq_true rfl, Nat.le_of_ble_eq_true rfl⟩ rfl (Nat.le_of_ble_eq_true rfl) ⟨Nat.le_of_ble_eq_true rfl, Nat.le_of_ble_eq_true rfl⟩ rfl dX11_start_63) h (fun r66 f67 H locs p68 h => ?_)
        have n69 : (9 : Int32).toInt = 9 := rfl
        obtain ⟨ir66, tf67, ogf67, x0r66, x1r66⟩ := p68
        have x0r66 : r66 = (rb (10 * u1.toInt + 9).toNat) := x0r66
        have x1r66 : r66.toInt = (rb (10 * u1.toInt + 9).toNat).toInt := x1r66
        have egf67 := Fr.nil2 ogf67
        subst egf67
        refine i_add hx hb dX11_start_66 iz64 ir66 (lo := 0) (hi := 99) (by decide) (fun z70 ez70 mz70 iz70 => ?_)
        refine lv_istore (lv' := [(4, .int z70), (0, .ref u0), (1, .int u1), (2, .int u2), (3, .int u3)]) hx hb dX11_start_67 hl (by decide) rfl (fun ls hl => ?_)
        refine lv_iload hx hb dX11_start_69 (lv_at hl 0 rfl) ?_
        refine lv_bipush (v := 10) hx hb dX11_start_71 (by decide) ?_
        refine lv_iload_n hx hb dX11_start_73 rfl (lv_at hl 3 rfl) ?_
        refine i_cmul hx hb dX11_start_74 (k := 10) rfl i34 (lo := 0) (hi := 90) (by decide) (fun z71 ez71 mz71 iz71 => ?_)
        refine lv_iload_n hx hb dX11_start_75 rfl (lv_at hl 4 rfl) ?_
        refine i_add hx hb dX11_start_76 iz71 i55 (lo := 0) (hi := 99) (by decide) (fun z72 ez72 mz72 iz72 => ?_)
        refine lv_icmp_ne (tgt := 86) hx hb dX11_start_77 (by decide) (fun c73 => ?_) (fun c73 => ?_)
        · have c74 : z70.toInt ≠ z72.toInt := fun z_ => c73 (Int32.toInt_inj.mp z_)
          refine lv_aload_n hx hb dX11_start_86 rfl (lv_at hl 1 rfl) ?_
          obtain ⟨_, r76⟩ := t_rec tf1 hu0 (by decide) wf_60
          refine k_v (r_V C h hl (As := []) (rest := []) (s_X11_keepsX l D G b0 τ f1 tf1 u0 hu0 ac hac k2 bq hbq k3 kq hkq k4 rb k5 rk k6) r76 (Cn := RX11) (T := TX11) (N := 32) rfl rfl mk_X11_keeps w_1612 w_1614 w_50 w_1615 ⟨Nat.le_of_ble_eq_true rfl, Nat.le_of_ble_eq_true rfl⟩ rfl (Nat.le_of_ble_eq_true rfl) ⟨Nat.le_of_ble_eq_true rfl, Nat.le_of_ble_eq_true rfl⟩ rfl dX11_start_87) h (fun f78 H locs p79 h => ?_)
          obtain ⟨tf78, ogf78, ⟨ac1_f78, kpu0_10f78, ipu0_10f78, rpu0_10f78⟩, ⟨rk1_f78, kRkqf78, pRkqf78⟩⟩ := p79
          have of78 : Fr [60, 63, 65, 66, 60001, 60011] τ f f78 := Fr.tr of1 ogf78 (by decide) (by decide)
          have k80 := atp.fk k3 ogf78 hu0 (by decide) (by decide)
          have k81 := atp.fk k4 ogf78 hu0 (by decide) (by decide)
          have k82 := atp.fr k5 ogf78 hbq (by decide)
          refine lv_aload_n hx hb dX11_start_90 rfl (lv_at hl 1 rfl) ?_
          refine t_getfd C h tf78 hu0 (by decide) wf_60 (v := .ref bq) k80 fl_X11_17 dX11_start_91 ?_
          refine lv_bipush (v := 10) hx hb dX11_start_94 (by decide) ?_
          refine lv_iload_n hx hb dX11_start_96 rfl (lv_at hl 2 rfl) ?_
          refine i_cmul hx hb dX11_start_97 (k := 10) rfl i15 (lo := 0) (hi := 70) (by decide) (fun z83 ez83 mz83 iz83 => ?_)
          refine lv_bipush (v := 8) hx hb dX11_start_98 (by decide) ?_
          refine i_addk hx hb dX11_start_100 iz83 (k := 8) rfl (lo := 8) (hi := 78) (by decide) (fun z84 ez84 mz84 iz84 => ?_)
          refine lv_iload_n hx hb dX11_start_101 rfl (lv_at hl 3 rfl) ?_
          refine e_bkst C h tf78 of78 hbq (by decide) (by decide) wf_63 fw_63 k82 (Or.inl ⟨iv_w iz84 (by decide), i34⟩) dX11_start_102 (fun R87 f85 erR87 H locs h tf85 of85 hq hn_ k86 => ?_)
          have k88 := atp.tg k80 hq hu0 (by decide)
          have k89 := atp.tg k81 hq hu0 (by decide)
          have k91 := atp.tg kpu0_10f78 hq hu0 (by decide)
          have k92 := atp.tg kRkqf78 hq hkq (by decide)
          refine lv_aload_n hx hb dX11_start_103 rfl (lv_at hl 1 rfl) ?_
          refine t_getfd C h tf85 hu0 (by decide) wf_60 (v := .ref bq) k88 fl_X11_17 dX11_start_104 ?_
          refine lv_bipush (v := 10) hx hb dX11_start_107 (by decide) ?_
          refine lv_iload_n hx hb dX11_start_109 rfl (lv_at hl 2 rfl) ?_
          refine i_cmul hx hb dX11_start_110 (k := 10) rfl i15 (lo := 0) (hi := 70) (by decide) (fun z93 ez93 mz93 iz93 => ?_)
          refine lv_bipush (v := 9) hx hb dX11_start_111 (by decide) ?_
          refine i_addk hx hb dX11_start_113 iz93 (k := 9) rfl (lo := 9) (hi := 79) (by decide) (fun z94 ez94 mz94 iz94 => ?_)
          refine lv_iload_n hx hb dX11_start_114 rfl (lv_at hl 4 rfl) ?_
          refine e_bkst C h tf85 of85 hbq (by decide) (by decide) wf_63 fw_63 k86 (Or.inl ⟨iv_w iz94 (by decide), i55⟩) dX11_start_115 (fun R97 f95 erR97 H locs h tf95 of95 hq hn_ k96 => ?_)
          have k98 := atp.tg k88 hq hu0 (by decide)
          have k99 := atp.tg k89 hq hu0 (by decide)
          have k100 := atp.tg k91 hq hu0 (by decide)
          have k101 := atp.tg k92 hq hkq (by decide)
          refine lv_iload hx hb dX11_start_116 (lv_at hl 0 rfl) ?_
          exact u_iret C h hr hQ (⟨(iv_w iz70 (by decide)), tf95, of95, ⟨fun _ => (by omega), fun z_ => (z_ (by omega)).elim⟩, ⟨ac1_f78, k100, (iv_w ipu0_10f78 (by decide)), ⟨fun _ => (by omega), fun z_ => (z_ (by omega)).elim⟩⟩, ⟨R97, k96, (fun k hk => by
              rw [if_pos (by omega)]
              rw [erR97, erR87]; unfold so; by_cases q9 : k = z94.toInt.toNat
              · rw [upd_at q9, if_neg (by omega), if_pos (by omega)]
              · rw [upd_off q9]; by_cases q8 : k = z84.toInt.toNat
                · rw [upd_at q8, if_pos (by omega)]
                · rw [upd_off q8, if_neg (by omega), if_neg (by omega)])⟩, ⟨rk1_f78, k101, (fun k hk => by rw [if_pos (by omega)]; exact pRkqf78 k hk)⟩⟩) (Nat.le_of_ble_eq_true rfl) (Nat.le_of_ble_eq_true rfl) dX11_start_118
        · have c75 : z70.toInt = z72.toInt := congrArg Int32.toInt c73
          refine lv_aload_n hx hb dX11_start_80 rfl (lv_at hl 1 rfl) ?_
          refine lv_iconst (v := 3) hx hb dX11_start_81 (by decide) ?_
          obtain ⟨_, r103⟩ := t_rec tf1 hu0 (by decide) wf_60
          refine k_i (r_V C h hl (As := [.int 3]) (rest := []) (s_X11_refuse l D G b0 τ f1 tf1 u0 hu0 3 (iv_w (iv_k (x := 3) (k := 3) rfl) (by decide))) r103 (Cn := RX11) (T := TX11) (N := 32) rfl rfl mk_X11_refuse w_1604 w_1606 w_48 w_1607 ⟨Nat.le_of_ble_eq_true rfl, Nat.le_of_ble_eq_true rfl⟩ rfl (Nat.le_of_ble_eq_true rfl) ⟨Nat.le_of_ble_eq_true rfl, Nat.le_of_ble_eq_true rfl⟩ rfl dX11_start_82) h (fun r104 f105 H locs p106 h => ?_)
          obtain ⟨ir104, tf105, ogf105⟩ := p106
          have of105 : Fr [60, 63, 65, 66, 60001, 60011] τ f f105 := Fr.tr of1 ogf105 (by decide) (by decide)
          have k107 := atp.fr k2 ogf105 hu0 (by decide)
          have k108 := atp.fr k3 ogf105 hu0 (by decide)
          have k109 := atp.fr k4 ogf105 hu0 (by decide)
          have k110 := atp.fr k5 ogf105 hbq (by decide)
          have k111 := atp.fr k6 ogf105 hkq (by decide)
          exact u_iret C h hr hQ (⟨(iv_w ir104 (by decide)), tf105, of105, ⟨fun z_ => absurd z_ (by omega), fun _ => (by omega)⟩, ⟨ac, k107, hac, ⟨fun z_ => absurd z_ (by omega), fun _ => rfl⟩⟩, ⟨rb, k110, (fun k hk => by rw [if_neg (by omega)])⟩, ⟨rk, k111, (fun k hk => by rw [if_neg (by omega)])⟩⟩) (Nat.le_of_ble_eq_true rfl) (Nat.le_of_ble_eq_true rfl) dX11_start_85
      · have c56 : r45.toInt = 0 := congrArg Int32.toInt c50
        have i57 : iv r45 0 0 := iv_Q c56 ir45 (iv_k (x := 0) (k := 0) rfl) (by decide)
        have i58 := czr45 c56
        refine lv_aload_n hx hb dX11_start_43 rfl (lv_at hl 0 rfl) ?_
        refine lv_iconst (v := 1) hx hb dX11_start_44 (by decide) ?_
        obtain ⟨_, r112⟩ := t_rec tf1 hu0 (by decide) wf_60
        refine k_i (r_V C h hl (As := [.int 1]) (rest := []) (s_X11_refuse l D G b0 τ f1 tf1 u0 hu0 1 (iv_w (iv_k (x := 1) (k := 1) rfl) (by decide))) r112 (Cn := RX11) (T := TX11) (N := 32) rfl rfl mk_X11_refuse w_1604 w_1606 w_48 w_1607 ⟨Nat.le_of_ble_eq_true rfl, Nat.le_of_ble_eq_true rfl⟩ rfl (Nat.le_of_ble_eq_true rfl) ⟨Nat.le_of_ble_eq_true rfl, Nat.le_of_ble_eq_true rfl⟩ rfl dX11_start_45) h (fun r113 f114 H locs p115 h => ?_)
        obtain ⟨ir113, tf114, ogf114⟩ := p115
        have of114 : Fr [60, 63, 65, 66, 60001, 60011] τ f f114 := Fr.tr of1 ogf114 (by decide) (by decide)
        have k116 := atp.fr k2 ogf114 hu0 (by decide)
        have k117 := atp.fr k3 ogf114 hu0 (by decide)
        have k118 := atp.fr k4 ogf114 hu0 (by decide)
        have k119 := atp.fr k5 ogf114 hbq (by decide)
        have k120 := atp.fr k6 ogf114 hkq (by decide)
        exact u_iret C h hr hQ (⟨(iv_w ir113 (by decide)), tf114, of114, ⟨fun z_ => absurd z_ (by omega), fun _ => (by omega)⟩, ⟨ac, k116, hac, ⟨fun z_ => absurd z_ (by omega), fun _ => rfl⟩⟩, ⟨rb, k119, (fun k hk => by rw [if_neg (by omega)])⟩, ⟨rk, k120, (fun k hk => by rw [if_neg (by omega)])⟩⟩) (Nat.le_of_ble_eq_true rfl) (Nat.le_of_ble_eq_true rfl) dX11_start_48
  · have c17 : r9.toInt = 0 := congrArg Int32.toInt c12
    have i18 : iv r9 0 0 := iv_Q c17 ir9 (iv_k (x := 0) (k := 0) rfl) (by decide)
    have i19 := czr9 c17
    refine lv_aload_n hx hb dX11_start_13 rfl (lv_at hl 0 rfl) ?_
    refine lv_iconst (v := 0) hx hb dX11_start_14 (by decide) ?_
    obtain ⟨_, r121⟩ := t_rec tf1 hu0 (by decide) wf_60
    refine k_i (r_V C h hl (As := [.int 0]) (rest := []) (s_X11_refuse l D G b0 τ f1 tf1 u0 hu0 0 (iv_w (iv_k (x := 0) (k := 0) rfl) (by decide))) r121 (Cn := RX11) (T := TX11) (N := 32) rfl rfl mk_X11_refuse w_1604 w_1606 w_48 w_1607 ⟨Nat.le_of_ble_eq_true rfl, Nat.le_of_ble_eq_true rfl⟩ rfl (Nat.le_of_ble_eq_true rfl) ⟨Nat.le_of_ble_eq_true rfl, Nat.le_of_ble_eq_true rfl⟩ rfl dX11_start_15) h (fun r122 f123 H locs p124 h => ?_)
    obtain ⟨ir122, tf123, ogf123⟩ := p124
    have of123 : Fr [60, 63, 65, 66, 60001, 60011] τ f f123 := Fr.tr of1 ogf123 (by decide) (by decide)
    have k125 := atp.fr k2 ogf123 hu0 (by decide)
    have k126 := atp.fr k3 ogf123 hu0 (by decide)
    have k127 := atp.fr k4 ogf123 hu0 (by decide)
    have k128 := atp.fr k5 ogf123 hbq (by decide)
    have k129 := atp.fr k6 ogf123 hkq (by decide)
    exact u_iret C h hr hQ (⟨(iv_w ir122 (by decide)), tf123, of123, ⟨fun z_ => absurd z_ (by omega), fun _ => (by omega)⟩, ⟨ac, k125, hac, ⟨fun z_ => absurd z_ (by omega), fun _ => rfl⟩⟩, ⟨rb, k128, (fun k hk => by rw [if_neg (by omega)])⟩, ⟨rk, k129, (fun k hk => by rw [if_neg (by omega)])⟩⟩) (Nat.le_of_ble_eq_true rfl) (Nat.le_of_ble_eq_true rfl) dX11_start_18
