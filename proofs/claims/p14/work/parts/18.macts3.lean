theorem dX11_scale_0 : decode cX11_scale 0 = .ok (.aload_n 0, 1) := by decide +kernel
theorem dX11_scale_1 : decode cX11_scale 1 = .ok (.iconst 0, 1) := by decide +kernel
theorem dX11_scale_2 : decode cX11_scale 2 = .ok (.putfield 75, 3) := by decide +kernel
theorem dX11_scale_5 : decode cX11_scale 5 = .ok (.aload_n 0, 1) := by decide +kernel
theorem dX11_scale_6 : decode cX11_scale 6 = .ok (.iload_n 1, 1) := by decide +kernel
theorem dX11_scale_7 : decode cX11_scale 7 = .ok (.invokevirtual 171, 3) := by decide +kernel
theorem dX11_scale_10 : decode cX11_scale 10 = .ok (.ifCond .ne 9, 3) := by decide +kernel
theorem dX11_scale_19 : decode cX11_scale 19 = .ok (.iload_n 2, 1) := by decide +kernel
theorem dX11_scale_20 : decode cX11_scale 20 = .ok (.i2l, 1) := by decide +kernel
theorem dX11_scale_21 : decode cX11_scale 21 = .ok (.ldc2_w 179, 3) := by decide +kernel
theorem dX11_scale_24 : decode cX11_scale 24 = .ok (.ldc2_w 181, 3) := by decide +kernel
theorem w_1648 : Cond.constantLong "QuarterWalksModel" 181 9 ∈ wAll := wI7 113 (by decide +kernel) (by decide +kernel)
theorem dX11_scale_27 : decode cX11_scale 27 = .ok (.invokestatic 158, 3) := by decide +kernel
theorem dX11_scale_30 : decode cX11_scale 30 = .ok (.ifCond .ne 9, 3) := by decide +kernel
theorem dX11_scale_39 : decode cX11_scale 39 = .ok (.iconst 0, 1) := by decide +kernel
theorem dX11_scale_40 : decode cX11_scale 40 = .ok (.istore_n 3, 1) := by decide +kernel
theorem dX11_scale_33 : decode cX11_scale 33 = .ok (.aload_n 0, 1) := by decide +kernel
theorem dX11_scale_34 : decode cX11_scale 34 = .ok (.iconst 1, 1) := by decide +kernel
theorem dX11_scale_35 : decode cX11_scale 35 = .ok (.invokevirtual 165, 3) := by decide +kernel
theorem dX11_scale_13 : decode cX11_scale 13 = .ok (.aload_n 0, 1) := by decide +kernel
theorem dX11_scale_14 : decode cX11_scale 14 = .ok (.iconst 0, 1) := by decide +kernel
theorem dX11_scale_15 : decode cX11_scale 15 = .ok (.invokevirtual 165, 3) := by decide +kernel
theorem dX11_scale_41 : decode cX11_scale 41 = .ok (.iload_n 3, 1) := by decide +kernel
theorem dX11_scale_42 : decode cX11_scale 42 = .ok (.bipush 8, 2) := by decide +kernel
theorem dX11_scale_44 : decode cX11_scale 44 = .ok (.if_icmp .ge 28, 3) := by decide +kernel
theorem dX11_scale_47 : decode cX11_scale 47 = .ok (.aload_n 0, 1) := by decide +kernel
theorem dX11_scale_48 : decode cX11_scale 48 = .ok (.iload_n 1, 1) := by decide +kernel
theorem dX11_scale_49 : decode cX11_scale 49 = .ok (.iload_n 3, 1) := by decide +kernel
theorem dX11_scale_50 : decode cX11_scale 50 = .ok (.invokevirtual 175, 3) := by decide +kernel
theorem dX11_scale_53 : decode cX11_scale 53 = .ok (.iload_n 2, 1) := by decide +kernel
theorem dX11_scale_54 : decode cX11_scale 54 = .ok (.imul, 1) := by decide +kernel
theorem dX11_scale_55 : decode cX11_scale 55 = .ok (.bipush 9, 2) := by decide +kernel
theorem dX11_scale_57 : decode cX11_scale 57 = .ok (.if_icmp .le 9, 3) := by decide +kernel
theorem dX11_scale_66 : decode cX11_scale 66 = .ok (.iinc 3 1, 3) := by decide +kernel
theorem dX11_scale_69 : decode cX11_scale 69 = .ok (.goto (-28), 3) := by decide +kernel
theorem dX11_scale_60 : decode cX11_scale 60 = .ok (.aload_n 0, 1) := by decide +kernel
theorem dX11_scale_61 : decode cX11_scale 61 = .ok (.iconst 1, 1) := by decide +kernel
theorem dX11_scale_62 : decode cX11_scale 62 = .ok (.invokevirtual 165, 3) := by decide +kernel
theorem dX11_scale_72 : decode cX11_scale 72 = .ok (.aload_n 0, 1) := by decide +kernel
theorem dX11_scale_73 : decode cX11_scale 73 = .ok (.invokevirtual 162, 3) := by decide +kernel
theorem dX11_scale_76 : decode cX11_scale 76 = .ok (.iconst 0, 1) := by decide +kernel
theorem dX11_scale_77 : decode cX11_scale 77 = .ok (.istore_n 3, 1) := by decide +kernel
theorem dX11_scale_78 : decode cX11_scale 78 = .ok (.iload_n 3, 1) := by decide +kernel
theorem dX11_scale_79 : decode cX11_scale 79 = .ok (.bipush 8, 2) := by decide +kernel
theorem dX11_scale_81 : decode cX11_scale 81 = .ok (.if_icmp .ge 24, 3) := by decide +kernel
theorem dX11_scale_84 : decode cX11_scale 84 = .ok (.aload_n 0, 1) := by decide +kernel
theorem dX11_scale_85 : decode cX11_scale 85 = .ok (.getfield 17, 3) := by decide +kernel
theorem dX11_scale_88 : decode cX11_scale 88 = .ok (.bipush 10, 2) := by decide +kernel
theorem dX11_scale_90 : decode cX11_scale 90 = .ok (.iload_n 1, 1) := by decide +kernel
theorem dX11_scale_91 : decode cX11_scale 91 = .ok (.imul, 1) := by decide +kernel
theorem dX11_scale_92 : decode cX11_scale 92 = .ok (.iload_n 3, 1) := by decide +kernel
theorem dX11_scale_93 : decode cX11_scale 93 = .ok (.iadd, 1) := by decide +kernel
theorem dX11_scale_94 : decode cX11_scale 94 = .ok (.dup2, 1) := by decide +kernel
theorem dX11_scale_95 : decode cX11_scale 95 = .ok (.iaload, 1) := by decide +kernel
theorem dX11_scale_96 : decode cX11_scale 96 = .ok (.iload_n 2, 1) := by decide +kernel
theorem dX11_scale_97 : decode cX11_scale 97 = .ok (.imul, 1) := by decide +kernel
theorem dX11_scale_98 : decode cX11_scale 98 = .ok (.iastore, 1) := by decide +kernel
theorem dX11_scale_99 : decode cX11_scale 99 = .ok (.iinc 3 1, 3) := by decide +kernel
theorem dX11_scale_102 : decode cX11_scale 102 = .ok (.goto (-24), 3) := by decide +kernel
theorem dX11_scale_105 : decode cX11_scale 105 = .ok (.aload_n 0, 1) := by decide +kernel
theorem dX11_scale_106 : decode cX11_scale 106 = .ok (.iload_n 1, 1) := by decide +kernel
theorem dX11_scale_107 : decode cX11_scale 107 = .ok (.invokevirtual 183, 3) := by decide +kernel
theorem dX11_scale_110 : decode cX11_scale 110 = .ok (.ireturn, 1) := by decide +kernel
theorem dX11_scale_65 : decode cX11_scale 65 = .ok (.ireturn, 1) := by decide +kernel
theorem dX11_scale_38 : decode cX11_scale 38 = .ok (.ireturn, 1) := by decide +kernel
theorem dX11_scale_18 : decode cX11_scale 18 = .ok (.ireturn, 1) := by decide +kernel
theorem dX11_weigh_0 : decode cX11_weigh 0 = .ok (.aload_n 0, 1) := by decide +kernel
theorem dX11_weigh_1 : decode cX11_weigh 1 = .ok (.iconst 0, 1) := by decide +kernel
theorem dX11_weigh_2 : decode cX11_weigh 2 = .ok (.putfield 75, 3) := by decide +kernel
theorem dX11_weigh_5 : decode cX11_weigh 5 = .ok (.aload_n 0, 1) := by decide +kernel
theorem dX11_weigh_6 : decode cX11_weigh 6 = .ok (.iload_n 1, 1) := by decide +kernel
theorem dX11_weigh_7 : decode cX11_weigh 7 = .ok (.invokevirtual 171, 3) := by decide +kernel
theorem dX11_weigh_10 : decode cX11_weigh 10 = .ok (.ifCond .ne 9, 3) := by decide +kernel
theorem dX11_weigh_19 : decode cX11_weigh 19 = .ok (.iload_n 2, 1) := by decide +kernel
theorem dX11_weigh_20 : decode cX11_weigh 20 = .ok (.i2l, 1) := by decide +kernel
theorem dX11_weigh_21 : decode cX11_weigh 21 = .ok (.lconst 0, 1) := by decide +kernel
theorem dX11_weigh_22 : decode cX11_weigh 22 = .ok (.ldc2_w 186, 3) := by decide +kernel
theorem w_1657 : Cond.constantLong "QuarterWalksModel" 186 7 ∈ wAll := wI7 122 (by decide +kernel) (by decide +kernel)
theorem dX11_weigh_25 : decode cX11_weigh 25 = .ok (.invokestatic 158, 3) := by decide +kernel
theorem dX11_weigh_28 : decode cX11_weigh 28 = .ok (.ifCond .eq 37, 3) := by decide +kernel
theorem dX11_weigh_65 : decode cX11_weigh 65 = .ok (.aload_n 0, 1) := by decide +kernel
theorem dX11_weigh_66 : decode cX11_weigh 66 = .ok (.iconst 1, 1) := by decide +kernel
theorem dX11_weigh_67 : decode cX11_weigh 67 = .ok (.invokevirtual 165, 3) := by decide +kernel
theorem dX11_weigh_31 : decode cX11_weigh 31 = .ok (.iload_n 3, 1) := by decide +kernel
theorem dX11_weigh_32 : decode cX11_weigh 32 = .ok (.i2l, 1) := by decide +kernel
theorem dX11_weigh_33 : decode cX11_weigh 33 = .ok (.lconst 0, 1) := by decide +kernel
theorem dX11_weigh_34 : decode cX11_weigh 34 = .ok (.ldc2_w 181, 3) := by decide +kernel
theorem dX11_weigh_37 : decode cX11_weigh 37 = .ok (.invokestatic 158, 3) := by decide +kernel
theorem dX11_weigh_40 : decode cX11_weigh 40 = .ok (.ifCond .eq 25, 3) := by decide +kernel
theorem dX11_weigh_43 : decode cX11_weigh 43 = .ok (.iload_n 3, 1) := by decide +kernel
theorem dX11_weigh_44 : decode cX11_weigh 44 = .ok (.ifCond .ne 27, 3) := by decide +kernel
theorem dX11_weigh_71 : decode cX11_weigh 71 = .ok (.aload_n 0, 1) := by decide +kernel
theorem dX11_weigh_72 : decode cX11_weigh 72 = .ok (.iload_n 1, 1) := by decide +kernel
theorem dX11_weigh_73 : decode cX11_weigh 73 = .ok (.iload_n 2, 1) := by decide +kernel
theorem dX11_weigh_74 : decode cX11_weigh 74 = .ok (.invokevirtual 175, 3) := by decide +kernel
theorem dX11_weigh_77 : decode cX11_weigh 77 = .ok (.istore 4, 2) := by decide +kernel
theorem dX11_weigh_79 : decode cX11_weigh 79 = .ok (.iload 4, 2) := by decide +kernel
theorem dX11_weigh_81 : decode cX11_weigh 81 = .ok (.iload_n 3, 1) := by decide +kernel
theorem dX11_weigh_82 : decode cX11_weigh 82 = .ok (.if_icmp .ne 9, 3) := by decide +kernel
theorem dX11_weigh_91 : decode cX11_weigh 91 = .ok (.aload_n 0, 1) := by decide +kernel
theorem dX11_weigh_92 : decode cX11_weigh 92 = .ok (.invokevirtual 162, 3) := by decide +kernel
theorem dX11_weigh_95 : decode cX11_weigh 95 = .ok (.aload_n 0, 1) := by decide +kernel
theorem dX11_weigh_96 : decode cX11_weigh 96 = .ok (.getfield 17, 3) := by decide +kernel
theorem dX11_weigh_99 : decode cX11_weigh 99 = .ok (.bipush 10, 2) := by decide +kernel
theorem dX11_weigh_101 : decode cX11_weigh 101 = .ok (.iload_n 1, 1) := by decide +kernel
theorem dX11_weigh_102 : decode cX11_weigh 102 = .ok (.imul, 1) := by decide +kernel
theorem dX11_weigh_103 : decode cX11_weigh 103 = .ok (.iload_n 2, 1) := by decide +kernel
theorem dX11_weigh_104 : decode cX11_weigh 104 = .ok (.iadd, 1) := by decide +kernel
theorem dX11_weigh_105 : decode cX11_weigh 105 = .ok (.iload_n 3, 1) := by decide +kernel
theorem dX11_weigh_106 : decode cX11_weigh 106 = .ok (.iastore, 1) := by decide +kernel
theorem dX11_weigh_107 : decode cX11_weigh 107 = .ok (.iload 4, 2) := by decide +kernel
theorem dX11_weigh_85 : decode cX11_weigh 85 = .ok (.aload_n 0, 1) := by decide +kernel
theorem dX11_weigh_86 : decode cX11_weigh 86 = .ok (.iconst 3, 1) := by decide +kernel
theorem dX11_weigh_87 : decode cX11_weigh 87 = .ok (.invokevirtual 165, 3) := by decide +kernel
theorem dX11_weigh_47 : decode cX11_weigh 47 = .ok (.aload_n 0, 1) := by decide +kernel
theorem dX11_weigh_48 : decode cX11_weigh 48 = .ok (.iload_n 1, 1) := by decide +kernel
theorem dX11_weigh_49 : decode cX11_weigh 49 = .ok (.iload_n 2, 1) := by decide +kernel
theorem dX11_weigh_50 : decode cX11_weigh 50 = .ok (.invokevirtual 175, 3) := by decide +kernel
theorem dX11_weigh_53 : decode cX11_weigh 53 = .ok (.ifCond .le 18, 3) := by decide +kernel
theorem dX11_weigh_56 : decode cX11_weigh 56 = .ok (.aload_n 0, 1) := by decide +kernel
theorem dX11_weigh_57 : decode cX11_weigh 57 = .ok (.iload_n 1, 1) := by decide +kernel
theorem dX11_weigh_58 : decode cX11_weigh 58 = .ok (.invokevirtual 188, 3) := by decide +kernel
theorem dX11_weigh_61 : decode cX11_weigh 61 = .ok (.iconst 1, 1) := by decide +kernel
theorem dX11_weigh_62 : decode cX11_weigh 62 = .ok (.if_icmp .ne 9, 3) := by decide +kernel
theorem dX11_weigh_13 : decode cX11_weigh 13 = .ok (.aload_n 0, 1) := by decide +kernel
theorem dX11_weigh_14 : decode cX11_weigh 14 = .ok (.iconst 0, 1) := by decide +kernel
theorem dX11_weigh_15 : decode cX11_weigh 15 = .ok (.invokevirtual 165, 3) := by decide +kernel
theorem dX11_weigh_70 : decode cX11_weigh 70 = .ok (.ireturn, 1) := by decide +kernel
theorem dX11_weigh_109 : decode cX11_weigh 109 = .ok (.ireturn, 1) := by decide +kernel
theorem dX11_weigh_90 : decode cX11_weigh 90 = .ok (.ireturn, 1) := by decide +kernel
theorem dX11_weigh_18 : decode cX11_weigh 18 = .ok (.ireturn, 1) := by decide +kernel
theorem dX11_start_0 : decode cX11_start 0 = .ok (.aload_n 0, 1) := by decide +kernel
theorem dX11_start_1 : decode cX11_start 1 = .ok (.iconst 0, 1) := by decide +kernel
theorem dX11_start_2 : decode cX11_start 2 = .ok (.putfield 75, 3) := by decide +kernel
theorem dX11_start_5 : decode cX11_start 5 = .ok (.aload_n 0, 1) := by decide +kernel
theorem dX11_start_6 : decode cX11_start 6 = .ok (.iload_n 1, 1) := by decide +kernel
theorem dX11_start_7 : decode cX11_start 7 = .ok (.invokevirtual 171, 3) := by decide +kernel
theorem dX11_start_10 : decode cX11_start 10 = .ok (.ifCond .ne 9, 3) := by decide +kernel
theorem dX11_start_19 : decode cX11_start 19 = .ok (.iload_n 2, 1) := by decide +kernel
theorem dX11_start_20 : decode cX11_start 20 = .ok (.i2l, 1) := by decide +kernel
theorem dX11_start_21 : decode cX11_start 21 = .ok (.lconst 0, 1) := by decide +kernel
theorem dX11_start_22 : decode cX11_start 22 = .ok (.ldc2_w 181, 3) := by decide +kernel
theorem dX11_start_25 : decode cX11_start 25 = .ok (.invokestatic 158, 3) := by decide +kernel
theorem dX11_start_28 : decode cX11_start 28 = .ok (.ifCond .eq 15, 3) := by decide +kernel
theorem dX11_start_43 : decode cX11_start 43 = .ok (.aload_n 0, 1) := by decide +kernel
theorem dX11_start_44 : decode cX11_start 44 = .ok (.iconst 1, 1) := by decide +kernel
theorem dX11_start_45 : decode cX11_start 45 = .ok (.invokevirtual 165, 3) := by decide +kernel
theorem dX11_start_31 : decode cX11_start 31 = .ok (.iload_n 3, 1) := by decide +kernel
theorem dX11_start_32 : decode cX11_start 32 = .ok (.i2l, 1) := by decide +kernel
theorem dX11_start_33 : decode cX11_start 33 = .ok (.lconst 0, 1) := by decide +kernel
theorem dX11_start_34 : decode cX11_start 34 = .ok (.ldc2_w 181, 3) := by decide +kernel
theorem dX11_start_37 : decode cX11_start 37 = .ok (.invokestatic 158, 3) := by decide +kernel
theorem dX11_start_40 : decode cX11_start 40 = .ok (.ifCond .ne 9, 3) := by decide +kernel
theorem dX11_start_49 : decode cX11_start 49 = .ok (.bipush 10, 2) := by decide +kernel
theorem dX11_start_51 : decode cX11_start 51 = .ok (.aload_n 0, 1) := by decide +kernel
theorem dX11_start_52 : decode cX11_start 52 = .ok (.iload_n 1, 1) := by decide +kernel
theorem dX11_start_53 : decode cX11_start 53 = .ok (.bipush 8, 2) := by decide +kernel
theorem dX11_start_55 : decode cX11_start 55 = .ok (.invokevirtual 175, 3) := by decide +kernel
theorem dX11_start_58 : decode cX11_start 58 = .ok (.imul, 1) := by decide +kernel
theorem dX11_start_59 : decode cX11_start 59 = .ok (.aload_n 0, 1) := by decide +kernel
theorem dX11_start_60 : decode cX11_start 60 = .ok (.iload_n 1, 1) := by decide +kernel
theorem dX11_start_61 : decode cX11_start 61 = .ok (.bipush 9, 2) := by decide +kernel
theorem dX11_start_63 : decode cX11_start 63 = .ok (.invokevirtual 175, 3) := by decide +kernel
theorem dX11_start_66 : decode cX11_start 66 = .ok (.iadd, 1) := by decide +kernel
theorem dX11_start_67 : decode cX11_start 67 = .ok (.istore 4, 2) := by decide +kernel
theorem dX11_start_69 : decode cX11_start 69 = .ok (.iload 4, 2) := by decide +kernel
theorem dX11_start_71 : decode cX11_start 71 = .ok (.bipush 10, 2) := by decide +kernel
theorem dX11_start_73 : decode cX11_start 73 = .ok (.iload_n 2, 1) := by decide +kernel
theorem dX11_start_74 : decode cX11_start 74 = .ok (.imul, 1) := by decide +kernel
theorem dX11_start_75 : decode cX11_start 75 = .ok (.iload_n 3, 1) := by decide +kernel
theorem dX11_start_76 : decode cX11_start 76 = .ok (.iadd, 1) := by decide +kernel
theorem dX11_start_77 : decode cX11_start 77 = .ok (.if_icmp .ne 9, 3) := by decide +kernel
theorem dX11_start_86 : decode cX11_start 86 = .ok (.aload_n 0, 1) := by decide +kernel
theorem dX11_start_87 : decode cX11_start 87 = .ok (.invokevirtual 162, 3) := by decide +kernel
theorem dX11_start_90 : decode cX11_start 90 = .ok (.aload_n 0, 1) := by decide +kernel
theorem dX11_start_91 : decode cX11_start 91 = .ok (.getfield 17, 3) := by decide +kernel
theorem dX11_start_94 : decode cX11_start 94 = .ok (.bipush 10, 2) := by decide +kernel
theorem dX11_start_96 : decode cX11_start 96 = .ok (.iload_n 1, 1) := by decide +kernel
theorem dX11_start_97 : decode cX11_start 97 = .ok (.imul, 1) := by decide +kernel
theorem dX11_start_98 : decode cX11_start 98 = .ok (.bipush 8, 2) := by decide +kernel
theorem dX11_start_100 : decode cX11_start 100 = .ok (.iadd, 1) := by decide +kernel
theorem dX11_start_101 : decode cX11_start 101 = .ok (.iload_n 2, 1) := by decide +kernel
theorem dX11_start_102 : decode cX11_start 102 = .ok (.iastore, 1) := by decide +kernel
theorem dX11_start_103 : decode cX11_start 103 = .ok (.aload_n 0, 1) := by decide +kernel
theorem dX11_start_104 : decode cX11_start 104 = .ok (.getfield 17, 3) := by decide +kernel
theorem dX11_start_107 : decode cX11_start 107 = .ok (.bipush 10, 2) := by decide +kernel
theorem dX11_start_109 : decode cX11_start 109 = .ok (.iload_n 1, 1) := by decide +kernel
theorem dX11_start_110 : decode cX11_start 110 = .ok (.imul, 1) := by decide +kernel
theorem dX11_start_111 : decode cX11_start 111 = .ok (.bipush 9, 2) := by decide +kernel
theorem dX11_start_113 : decode cX11_start 113 = .ok (.iadd, 1) := by decide +kernel
theorem dX11_start_114 : decode cX11_start 114 = .ok (.iload_n 3, 1) := by decide +kernel
theorem dX11_start_115 : decode cX11_start 115 = .ok (.iastore, 1) := by decide +kernel
theorem dX11_start_116 : decode cX11_start 116 = .ok (.iload 4, 2) := by decide +kernel
theorem dX11_start_80 : decode cX11_start 80 = .ok (.aload_n 0, 1) := by decide +kernel
theorem dX11_start_81 : decode cX11_start 81 = .ok (.iconst 3, 1) := by decide +kernel
theorem dX11_start_82 : decode cX11_start 82 = .ok (.invokevirtual 165, 3) := by decide +kernel
theorem dX11_start_13 : decode cX11_start 13 = .ok (.aload_n 0, 1) := by decide +kernel
theorem dX11_start_14 : decode cX11_start 14 = .ok (.iconst 0, 1) := by decide +kernel
theorem dX11_start_15 : decode cX11_start 15 = .ok (.invokevirtual 165, 3) := by decide +kernel
theorem dX11_start_48 : decode cX11_start 48 = .ok (.ireturn, 1) := by decide +kernel
theorem dX11_start_118 : decode cX11_start 118 = .ok (.ireturn, 1) := by decide +kernel
theorem dX11_start_85 : decode cX11_start 85 = .ok (.ireturn, 1) := by decide +kernel
theorem dX11_start_18 : decode cX11_start 18 = .ok (.ireturn, 1) := by decide +kernel
abbrev rm_s_X11_worthOfX : Room := { frames := 1, cells := 0, slots := 0, locals := 22 }
set_option maxRecDepth 100000 in
set_option maxHeartbeats 4000000 in
theorem s_X11_worthOfX (l : Launch) (D : va_G) (G : Nat → Nat) (b0 : Nat) (τ : Nat → Nat) (f : hM) (t : TI G 9 τ f) (u0 : Nat) (hu0 : τ u0 = 60) (u1 : Int32) (hu1 : iv u1 0 7) (bq : Nat) (hbq : τ bq = 63) (k_u0_6 : atp f u0 (fd 6 (.ref bq))) (rb : Nat → Int32) (hRbq : atp f bq (eqc (.inl (G 1, 81, .inl rb)))) : mI l yX11_worthOf cX11_worthOf 4 (.int) rm_s_X11_worthOfX D G b0 f [.ref u0, .int u1] (fun r f1 => iv r 0 72 ∧ TI G 9 τ f1 ∧ Fr [] τ f f1 ∧ (r.toInt = wsm rb u1.toInt 8)) := by
  refine met2 (own := RX11) (by decide) rfl (Nat.le_of_ble_eq_true rfl) ?_
  intro p e s m args below meth c ls Q hQ C hr hini hl h
  have hl : lv_has ls 4 [(0, .ref u0), (1, .int u1)] := hl
  obtain ⟨hx, hb, hml, hown, hts, hE0, hlk⟩ := id C
  have o := Fr.rf [] τ f
  have L4 : ∀ (n4 : Nat) (ls : Array Slot) (f_4 : hM) (H : Heap) (locs : List Loc) (v4_2 : Int32) (v4_3 : Int32), 8 - v4_3.toInt < (n4 : Int) → lv_has ls 4 [(0, .ref u0), (1, .int u1), (2, .int v4_2), (3, .int v4_3)] → hw D b0 s.heap f_4 H locs → TI G 9 τ f_4 → Fr [] τ f f_4 → iv v4_2 0 72 → iv v4_3 0 8 → atp f_4 u0 (fd 6 (.ref bq)) → atp f_4 bq (eqc (.inl (G 1, 81, .inl rb))) → (v4_2.toInt = wsm rb u1.toInt (Int.toNat (v4_3.toInt))) → v4_2.toInt ≤ 9 * v4_3.toInt → W p l e rm_s_X11_worthOfX s m args below meth c H locs 0 0 Q (F0 m 4 ls []) := by
    intro n4
    induction n4 with
    | zero => intro ls f_4 H locs v4_2 v4_3 hm4 hl h t_4 o_4 iv4_2 iv4_3 k4_u0_6 k4_bq_R hv4_0 hv4_1; exact absurd hm4 (by omega)
    | succ n4 ih4 =>
      intro ls f_4 H locs v4_2 v4_3 hm4 hl h t_4 o_4 iv4_2 iv4_3 k4_u0_6 k4_bq_R hv4_0 hv4_1
      refine lv_iload_n hx hb dX11_worthOf_4 rfl (lv_at hl 3 rfl) ?_
      refine lv_bipush (v := 8) hx hb dX11_worthOf_5 (by decide) ?_
      refine lv_icmp_ge (tgt := 25) hx hb dX11_worthOf_7 (by decide) (fun c1 => ?_) (fun c1 => ?_)
      · have c2 : 8 ≤ v4_3.toInt := Int32.le_iff_toInt_le.mp c1
        have i3 : iv v4_3 8 8 := iv_Er c2 (iv_k (x := 8) (k := 8) rfl) iv4_3 (by decide)
        refine lv_iload_n hx hb dX11_worthOf_25 rfl (lv_at hl 2 rfl) ?_
        exact u_iret C h hr hQ (⟨iv4_2, t_4, o_4, (by rw [hv4_0, show v4_3.toInt.toNat = 8 by omega])⟩) (Nat.le_of_ble_eq_true rfl) (Nat.le_of_ble_eq_true rfl) dX11_worthOf_26
      · have c4 : v4_3.toInt < 8 := Int32.lt_iff_toInt_lt.mp (iv_nle c1)
        have i5 : iv v4_3 0 7 := iv_Ll c4 iv4_3 (iv_k (x := 8) (k := 8) rfl) (by decide)
        refine lv_iload_n hx hb dX11_worthOf_10 rfl (lv_at hl 2 rfl) ?_
        refine lv_aload_n hx hb dX11_worthOf_11 rfl (lv_at hl 0 rfl) ?_
        refine lv_iload_n hx hb dX11_worthOf_12 rfl (lv_at hl 1 rfl) ?_
        refine lv_iload_n hx hb dX11_worthOf_13 rfl (lv_at hl 3 rfl) ?_
        obtain ⟨_, r6⟩ := t_rec t_4 hu0 (by decide) wf_60
        refine k_i (r_V C h hl (As := [.int u1, .int v4_3]) (rest := [.int v4_2]) (s_X11_weightOfX l D G b0 τ f_4 t_4 u0 hu0 u1 hu1 v4_3 (iv_w i5 (by decide)) bq hbq k4_u0_6 rb k4_bq_R) r6 (Cn := RX11) (T := TX11) (N := 32) rfl rfl mk_X11_weightOf w_1631 w_1633 w_52 w_1634 ⟨Nat.le_of_ble_eq_true rfl, Nat.le_of_ble_eq_true rfl⟩ rfl (Nat.le_of_ble_eq_true rfl) ⟨Nat.le_of_ble_eq_true rfl, Nat.le_of_ble_eq_true rfl⟩ rfl dX11_worthOf_14) h (fun r7 f8 H locs p9 h => ?_)
        obtain ⟨ir7, tf8, ogf8, x0r7, x1r7⟩ := p9
        have egf8 := Fr.nil2 ogf8
        subst egf8
        refine i_add hx hb dX11_worthOf_17 iv4_2 ir7 (lo := 0) (hi := 81) (by decide) (fun z10 ez10 mz10 iz10 => ?_)
        refine lv_istore_n (lv' := [(2, .int z10), (0, .ref u0), (1, .int u1), (3, .int v4_3)]) hx hb dX11_worthOf_18 rfl hl (by decide) rfl (fun ls hl => ?_)
        refine i_inc hx hb dX11_worthOf_19 hl (k := 3) rfl i5 rfl (lo := 1) (hi := 8) (by decide) (by decide) (lv' := fun v => [(3, .int v), (2, .int z10), (0, .ref u0), (1, .int u1)]) (fun _ => rfl) (fun z11 ls ez11 mz11 iz11 hl => ?_)
        refine lv_goto (tgt := 4) hx hb dX11_worthOf_22 (by decide) ?_
        exact ih4 ls f_4 H locs z10 z11 (show 8 - z11.toInt < _ by omega) (lv_cons hl 2 rfl (lv_cons hl 3 rfl (lv_cons hl 1 rfl (lv_cons hl 0 rfl (lv_nil hl))))) h t_4 o_4 (show iv z10 0 72 from by omega) (iv_w iz11 (by decide)) k4_u0_6 k4_bq_R (show z10.toInt = wsm rb u1.toInt (Int.toNat (z11.toInt)) from (by rw [wsm_s (i := v4_3.toInt) (by omega) (by omega), ← hv4_0, ← x1r7]; omega)) (show z10.toInt ≤ 9 * z11.toInt by omega)
  refine lv_iconst (v := 0) hx hb dX11_worthOf_0 (by decide) ?_
  refine lv_istore_n (lv' := [(2, .int 0), (0, .ref u0), (1, .int u1)]) hx hb dX11_worthOf_1 rfl hl (by decide) rfl (fun ls hl => ?_)
  refine lv_iconst (v := 0) hx hb dX11_worthOf_2 (by decide) ?_
  refine lv_istore_n (lv' := [(3, .int 0), (2, .int 0), (0, .ref u0), (1, .int u1)]) hx hb dX11_worthOf_3 rfl hl (by decide) rfl (fun ls hl => ?_)
  exact L4 9 ls f s.heap [] 0 0 (by decide) (lv_cons hl 2 rfl (lv_cons hl 3 rfl (lv_cons hl 1 rfl (lv_cons hl 0 rfl (lv_nil hl))))) h t o ⟨by decide, by decide⟩ ⟨by decide, by decide⟩ k_u0_6 hRbq (show 0 = wsm rb u1.toInt (Int.toNat (0)) from rfl) (show 0 ≤ 9 * 0 by omega)
abbrev rm_s_X11_scaleX : Room := { frames := 2, cells := 0, slots := 0, locals := 46 }
set_option maxRecDepth 100000 in
set_option maxHeartbeats 4000000 in
theorem s_X11_scaleX (l : Launch) (D : va_G) (G : Nat → Nat) (b0 : Nat) (τ : Nat → Nat) (f : hM) (t : TI G 9 τ f) (u0 : Nat) (hu0 : τ u0 = 60) (u1 : Int32) (hu1 : iv u1 (-2147483648) 2147483647) (u2 : Int32) (hu2 : iv u2 (-2147483648) 2147483647) (ac : Int32) (hac : iv ac 0 12) (k_u0_10 : atp f u0 (fd 10 (.int ac))) (bq : Nat) (hbq : τ bq = 63) (k_u0_6 : atp f u0 (fd 6 (.ref bq))) (kq : Nat) (hkq : τ kq = 65) (k_u0_8 : atp f u0 (fd 8 (.ref kq))) (fq : Nat) (hfq : τ fq = 66) (k_u0_9 : atp f u0 (fd 9 (.ref fq))) (rb : Nat → Int32) (hRbq : atp f bq (eqc (.inl (G 1, 81, .inl rb)))) (rk : Nat → Int32) (hRkq : atp f kq (eqc (.inl (G 1, 972, .inl rk)))) (rr : Nat → Int32) (hRfq : atp f fq (eqc (.inl (G 1, 4, .inl rr)))) : mI l yX11_scale cX11_scale 4 (.int) rm_s_X11_scaleX D G b0 f [.ref u0, .int u1, .int u2] (fun r f1 => iv r (-1) 72 ∧ TI G 9 τ f1 ∧ Fr [60, 63, 65, 66, 60001, 60011] τ f f1 ∧ (((((0 ≤ u1.toInt ∧ u1.toInt < (rb 80).toInt) ∧ (2 ≤ u2.toInt ∧ u2.toInt ≤ 9) ∧ ∀ s : Nat, s < 8 → (rb (10 * u1.toInt + s).toNat * u2).toInt ≤ 9)) → r.toInt = wsm (sc rb u1.toInt u2) u1.toInt 8) ∧ (¬ (((0 ≤ u1.toInt ∧ u1.toInt < (rb 80).toInt) ∧ (2 ≤ u2.toInt ∧ u2.toInt ≤ 9) ∧ ∀ s : Nat, s < 8 → (rb (10 * u1.toInt + s).toNat * u2).toInt ≤ 9)) → r.toInt = -1)) ∧ (∃ ac1 : Int32, atp f1 u0 (fd 10 (.int ac1)) ∧ iv ac1 0 12 ∧ ((((0 ≤ u1.toInt ∧ u1.toInt < (rb 80).toInt) ∧ (2 ≤ u2.toInt ∧ u2.toInt ≤ 9) ∧ ∀ s : Nat, s < 8 → (rb (10 * u1.toInt + s).toNat * u2).toInt ≤ 9)) → ((ac.toInt = 12 → ac1.toInt = 12) ∧ (ac.toInt ≠ 12 → ac1.toInt = ac.toInt + 1))) ∧ (¬ (((0 ≤ u1.toInt ∧ u1.toInt < (rb 80).toInt) ∧ (2 ≤ u2.toInt ∧ u2.toInt ≤ 9) ∧ ∀ s : Nat, s < 8 → (rb (10 * u1.toInt + s).toNat * u2).toInt ≤ 9)) → ac1.toInt = ac.toInt)) ∧ (∃ rb1 : Nat → Int32, atp f1 bq (eqc (.inl (G 1, 81, .inl rb1))) ∧ (∀ k : Nat, k < 81 → rb1 k = if ((0 ≤ u1.toInt ∧ u1.toInt < (rb 80).toInt) ∧ (2 ≤ u2.toInt ∧ u2.toInt ≤ 9) ∧ ∀ s : Nat, s < 8 → (rb (10 * u1.toInt + s).toNat * u2).toInt ≤ 9) then sc rb u1.toInt u2 k else rb k)) ∧ (∃ rk1 : Nat → Int32, atp f1 kq (eqc (.inl (G 1, 972, .inl rk1))) ∧ (∀ k : Nat, k < 972 → rk1 k = if ((0 ≤ u1.toInt ∧ u1.toInt < (rb 80).toInt) ∧ (2 ≤ u2.toInt ∧ u2.toInt ≤ 9) ∧ ∀ s : Nat, s < 8 → (rb (10 * u1.toInt + s).toNat * u2).toInt ≤ 9) then kp rk rb ac.toInt k else rk k)) ∧ (∃ rr1 : Nat → Int32, atp f1 fq (eqc (.inl (G 1, 4, .inl rr1))) ∧ (∀ k : Nat, k < 4 → rr1 k = if (k : Int) = (if ¬ (0 ≤ u1.toInt ∧ u1.toInt < (rb 80).toInt) then 0 else (if ¬ (2 ≤ u2.toInt ∧ u2.toInt ≤ 9) then 1 else (if ¬ (∀ s : Nat, s < 8 → (rb (10 * u1.toInt + s).toNat * u2).toInt ≤ 9) then 1 else -1))) then rr k + 1 else rr k))) := by
  refine met2 (own := RX11) (by decide) rfl (Nat.le_of_ble_eq_true rfl) ?_
  intro p e s m args below meth c ls Q hQ C hr hini hl h
  have hl : lv_has ls 4 [(0, .ref u0), (1, .int u1), (2, .int u2)] := hl
  obtain ⟨hx, hb, hml, hown, hts, hE0, hlk⟩ := id C
  have o := Fr.rf [60, 63, 65, 66, 60001, 60011] τ f
  have L41 : ∀ (n41 : Nat) (ls : Array Slot) (f_41 : hM) (H : Heap) (locs : List Loc) (v41_3 : Int32), 8 - v41_3.toInt < (n41 : Int) → lv_has ls 4 [(0, .ref u0), (1, .int u1), (2, .int u2), (3, .int v41_3)] → hw D b0 s.heap f_41 H locs → TI G 9 τ f_41 → Fr [60, 63, 65, 66, 60001, 60011] τ f f_41 → iv u1 0 7 → iv u2 2 9 → iv v41_3 0 8 → atp f_41 u0 (fd 10 (.int ac)) → atp f_41 u0 (fd 6 (.ref bq)) → atp f_41 u0 (fd 8 (.ref kq)) → atp f_41 u0 (fd 9 (.ref fq)) → atp f_41 bq (eqc (.inl (G 1, 81, .inl rb))) → atp f_41 kq (eqc (.inl (G 1, 972, .inl rk))) → atp f_41 fq (eqc (.inl (G 1, 4, .inl rr))) → (0 ≤ u1.toInt ∧ u1.toInt < (rb 80).toInt) ∧ 2 ≤ u2.toInt ∧ u2.toInt ≤ 9 → (∀ s : Nat, (s : Int) < v41_3.toInt → (rb (10 * u1.toInt + s).toNat * u2).toInt ≤ 9) → W p l e rm_s_X11_scaleX s m args below meth c H locs 0 0 Q (F0 m 41 ls []) := by
    intro n41
    induction n41 with
    | zero => intro ls f_41 H locs v41_3 hm41 hl h t_41 o_41 jv41_1 jv41_2 iv41_3 k41_u0_10 k41_u0_6 k41_u0_8 k41_u0_9 k41_bq_R k41_kq_R k41_fq_R hv41_0 hv41_1; exact absurd hm41 (by omega)
    | succ n41 ih41 =>
      intro ls f_41 H locs v41_3 hm41 hl h t_41 o_41 jv41_1 jv41_2 iv41_3 k41_u0_10 k41_u0_6 k41_u0_8 k41_u0_9 k41_bq_R k41_kq_R k41_fq_R hv41_0 hv41_1
      have L78 : ∀ (n78 : Nat) (ls : Array Slot) (f_78 : hM) (H : Heap) (locs : List Loc) (v78_3 : Int32) (g78_bq_R : Nat → Int32) (g78_u0_10 : Int32) (g78_kq_R : Nat → Int32), 8 - v78_3.toInt < (n78 : Int) → lv_has ls 4 [(0, .ref u0), (1, .int u1), (2, .int u2), (3, .int v78_3)] → hw D b0 s.heap f_78 H locs → TI G 9 τ f_78 → Fr [60, 63, 65, 66, 60001, 60011] τ f f_78 → iv v78_3 0 8 → iv g78_u0_10 1 12 → atp f_78 u0 (fd 6 (.ref bq)) → atp f_78 u0 (fd 8 (.ref kq)) → atp f_78 u0 (fd 9 (.ref fq)) → atp f_78 bq (eqc (.inl (G 1, 81, .inl g78_bq_R))) → atp f_78 fq (eqc (.inl (G 1, 4, .inl rr))) → atp f_78 u0 (fd 10 (.int g78_u0_10)) → atp f_78 kq (eqc (.inl (G 1, 972, .inl g78_kq_R))) → ((g78_bq_R 80).toInt = (rb 80).toInt) → 0 ≤ u1.toInt ∧ u1.toInt < (rb 80).toInt → 2 ≤ u2.toInt ∧ u2.toInt ≤ 9 → ((ac.toInt = 12 → g78_u0_10.toInt = 12) ∧ (ac.toInt ≠ 12 → g78_u0_10.toInt = ac.toInt + 1)) → (∀ k : Nat, k < 972 → g78_kq_R k = kp rk rb ac.toInt k) → (∀ k : Nat, g78_bq_R k = if 10 * u1.toInt ≤ (k : Int) ∧ (k : Int) < 10 * u1.toInt + v78_3.toInt then rb k * u2 else rb k) → (∀ s : Nat, s < 8 → (rb (10 * u1.toInt + s).toNat * u2).toInt ≤ 9) → W p l e rm_s_X11_scaleX s m args below meth c H locs 0 0 Q (F0 m 78 ls []) := by
        intro n78
        induction n78 with
        | zero => intro ls f_78 H locs v78_3 g78_bq_R g78_u0_10 g78_kq_R hm78 hl h t_78 o_78 iv78_3 ig78_u0_10 k78_u0_6 k78_u0_8 k78_u0_9 k78_bq_R k78_fq_R k78_u0_10 k78_kq_R hv78_0 hv78_1 hv78_2 hv78_3 hv78_4 hv78_5 hv78_6; exact absurd hm78 (by omega)
        | succ n78 ih78 =>
          intro ls f_78 H locs v78_3 g78_bq_R g78_u0_10 g78_kq_R hm78 hl h t_78 o_78 iv78_3 ig78_u0_10 k78_u0_6 k78_u0_8 k78_u0_9 k78_bq_R k78_fq_R k78_u0_10 k78_kq_R hv78_0 hv78_1 hv78_2 hv78_3 hv78_4 hv78_5 hv78_6
          refine lv_iload_n hx hb dX11_scale_78 rfl (lv_at hl 3 rfl) ?_
          refine lv_bipush (v := 8) hx hb dX11_scale_79 (by decide) ?_
          refine lv_icmp_ge (tgt := 105) hx hb dX11_scale_81 (by decide) (fun c1 => ?_) (fun c1 => ?_)
          · have c2 : 8 ≤ v78_3.toInt := Int32.le_iff_toInt_le.mp c1
            have i3 : iv v78_3 8 8 := iv_Er c2 (iv_k (x := 8) (k := 8) rfl) iv78_3 (by decide)
            refine lv_aload_n hx hb dX11_scale_105 rfl (lv_at hl 0 rfl) ?_
            refine lv_iload_n hx hb dX11_scale_106 rfl (lv_at hl 1 rfl) ?_
            obtain ⟨_, r6⟩ := t_rec t_78 hu0 (by decide) wf_60
            refine k_i (r_V C h hl (As := [.int u1]) (rest := []) (s_X11_worthOfX l D G b0 τ f_78 t_78 u0 hu0 u1 jv41_1 bq hbq k78_u0_6 g78_bq_R k78_bq_R) r6 (Cn := RX11) (T := TX11) (N := 32) rfl rfl mk_X11_worthOf w_1649 w_1651 w_53 w_1652 ⟨Nat.le_of_ble_eq_true rfl, Nat.le_of_ble_eq_true rfl⟩ rfl (Nat.le_of_ble_eq_true rfl) ⟨Nat.le_of_ble_eq_true rfl, Nat.le_of_ble_eq_true rfl⟩ rfl dX11_scale_107) h (fun r7 f8 H locs p9 h => ?_)
            obtain ⟨ir7, tf8, ogf8, x0r7⟩ := p9
            have egf8 := Fr.nil2 ogf8
            subst egf8
            exact u_iret C h hr hQ (⟨(iv_w ir7 (by decide)), t_78, o_78, ⟨fun _ => (by rw [x0r7]; exact wsm_c (by omega) (fun k_ hk_ => by rw [hv78_5 k_]; unfold sc; (repeat' split) <;> first | rfl | (exfalso; omega) | (exact congrArg _ (by omega))) 8 (by decide)), fun z_ => (z_ ⟨by omega, by omega, hv78_6⟩).elim⟩, ⟨g78_u0_10, k78_u0_10, (iv_w ig78_u0_10 (by decide)), ⟨fun _ => (by omega), fun z_ => (z_ ⟨by omega, by omega, hv78_6⟩).elim⟩⟩, ⟨g78_bq_R, k78_bq_R, (fun k hk => by
                rw [if_pos ⟨by omega, by omega, hv78_6⟩]
                rw [hv78_5 k]; unfold sc; (repeat' split) <;> first | rfl | (exfalso; omega) | (exact congrArg _ (by omega)))⟩, ⟨g78_kq_R, k78_kq_R, (fun k hk => by rw [if_pos ⟨by omega, by omega, hv78_6⟩]; exact hv78_4 k hk)⟩, ⟨rr, k78_fq_R, (bump_no (by rw [if_neg (by omega), if_neg (by omega), if_neg (fun z_ => z_ hv78_6)]))⟩⟩) (Nat.le_of_ble_eq_true rfl) (Nat.le_of_ble_eq_true rfl) dX11_scale_110
          · have c4 : v78_3.toInt < 8 := Int32.lt_iff_toInt_lt.mp (iv_nle c1)
            have i5 : iv v78_3 0 7 := iv_Ll c4 iv78_3 (iv_k (x := 8) (k := 8) rfl) (by decide)
            refine lv_aload_n hx hb dX11_scale_84 rfl (lv_at hl 0 rfl) ?_
            refine t_getfd C h t_78 hu0 (by decide) wf_60 (v := .ref bq) k78_u0_6 fl_X11_17 dX11_scale_85 ?_
            refine lv_bipush (v := 10) hx hb dX11_scale_88 (by decide) ?_
            refine lv_iload_n hx hb dX11_scale_90 rfl (lv_at hl 1 rfl) ?_
            refine i_cmul hx hb dX11_scale_91 (k := 10) rfl jv41_1 (lo := 0) (hi := 70) (by decide) (fun z10 ez10 mz10 iz10 => ?_)
            refine lv_iload_n hx hb dX11_scale_92 rfl (lv_at hl 3 rfl) ?_
            refine i_add hx hb dX11_scale_93 iz10 i5 (lo := 0) (hi := 77) (by decide) (fun z11 ez11 mz11 iz11 => ?_)
            refine lv_dup2_11 hx hb dX11_scale_94 rfl rfl ?_
            refine e_bkld C h t_78 hbq (by decide) wf_63 k78_bq_R iz11 (by decide) dX11_scale_95 (fun z12 ez12 iz12 => ?_)
            have mz12 := congrArg Int32.toInt ez12
            refine lv_iload_n hx hb dX11_scale_96 rfl (lv_at hl 2 rfl) ?_
            refine i_mulp hx hb dX11_scale_97 iz12 jv41_2 (lo := 0) (hi := 81) (by decide) (fun z13 ez13 iz13 => ?_)
            have h_ := hv78_6 v78_3.toInt.toNat (by omega)
            rw [show (10 * u1.toInt + ((v78_3.toInt.toNat : Nat) : Int)).toNat = z11.toInt.toNat by omega] at h_
            have ey_ : z12 = rb z11.toInt.toNat := by rw [ez12, hv78_5 _, if_neg (by omega)]
            rw [← ey_, ← ez13] at h_
            have i14 : iv z13 0 9 := ⟨by omega, h_⟩
            refine e_bkst C h t_78 o_78 hbq (by decide) (by decide) wf_63 fw_63 k78_bq_R (Or.inl ⟨iv_w iz11 (by decide), i14⟩) dX11_scale_98 (fun R17 f15 erR17 H locs h tf15 of15 hq hn_ k16 => ?_)
            have k18 := atp.tg k78_u0_6 hq hu0 (by decide)
            have k19 := atp.tg k78_u0_8 hq hu0 (by decide)
            have k20 := atp.tg k78_u0_9 hq hu0 (by decide)
            have k22 := atp.tg k78_fq_R hq hfq (by decide)
            have k23 := atp.tg k78_u0_10 hq hu0 (by decide)
            have k24 := atp.tg k78_kq_R hq hkq (by decide)
            refine i_inc hx hb dX11_scale_99 hl (k := 3) rfl i5 rfl (lo := 1) (hi := 8) (by decide) (by decide) (lv' := fun v => [(3, .int v), (0, .ref u0), (1, .int u1), (2, .int u2)]) (fun _ => rfl) (fun z25 ls ez25 mz25 iz25 hl => ?_)
            refine lv_goto (tgt := 78) hx hb dX11_scale_102 (by decide) ?_
            exact ih78 ls f15 H locs z25 R17 g78_u0_10 g78_kq_R (show 8 - z25.toInt < _ by omega) (lv_cons hl 1 rfl (lv_cons hl 2 rfl (lv_cons hl 3 rfl (lv_cons hl 0 rfl (lv_nil hl))))) h tf15 of15 (iv_w iz25 (by decide)) ig78_u0_10 k18 k19 k20 k16 k22 k23 k24 (show (R17 80).toInt = (rb 80).toInt from (by rw [erR17, upd_off (by omega)]; exact hv78_0)) (show 0 ≤ u1.toInt ∧ u1.toInt < (rb 80).toInt by omega) (show 2 ≤ u2.toInt ∧ u2.toInt ≤ 9 by omega) (show ((ac.toInt = 12 → g78_u0_10.toInt = 12) ∧ (ac.toInt ≠ 12 → g78_u0_10.toInt = ac.toInt + 1)) by omega) (show ∀ k : Nat, k < 972 → g78_kq_R k = kp rk rb ac.toInt k from hv78_4) (show ∀ k : Nat, R17 k = if 10 * u1.toInt ≤ (k : Int) ∧ (k : Int) < 10 * u1.toInt + z25.toInt then rb k * u2 else rb k from (by
                intro k; rw [erR17]; by_cases q_ : k = z11.toInt.toNat
                · rw [upd_at q_, ez13, ey_, ← q_]; (repeat' split) <;> first | rfl | (exfalso; omega) | (exact congrArg _ (by omega)) | (exact congr (congrArg HAdd.hAdd (congrArg rb (by omega))) (congrArg rb (by omega)))
                · rw [upd_off q_, hv78_5 k]; (repeat' split) <;> first | rfl | (exfalso; omega) | (exact congrArg _ (by omega)))) (show ∀ s : Nat, s < 8 → (rb (10 * u1.toInt + s).toNat * u2).toInt ≤ 9 from hv78_6)
      refine lv_iload_n hx hb dX11_scale_41 rfl (lv_at hl 3 rfl) ?_
      refine lv_bipush (v := 8) hx hb dX11_scale_42 (by decide) ?_
      refine lv_icmp_ge (tgt := 72) hx hb dX11_scale_44 (by decide) (fun c26 => ?_) (fun c26 => ?_)
      · have c27 : 8 ≤ v41_3.toInt := Int32.le_iff_toInt_le.mp c26
        have i28 : iv v41_3 8 8 := iv_Er c27 (iv_k (x := 8) (k := 8) rfl) iv41_3 (by decide)
        refine lv_aload_n hx hb dX11_scale_72 rfl (lv_at hl 0 rfl) ?_
        obtain ⟨_, r31⟩ := t_rec t_41 hu0 (by decide) wf_60
        refine k_v (r_V C h hl (As := []) (rest := []) (s_X11_keepsX l D G b0 τ f_41 t_41 u0 hu0 ac hac k41_u0_10 bq hbq k41_u0_6 kq hkq k41_u0_8 rb k41_bq_R rk k41_kq_R) r31 (Cn := RX11) (T := TX11) (N := 32) rfl rfl mk_X11_keeps w_1612 w_1614 w_50 w_1615 ⟨Nat.le_of_ble_eq_true rfl, Nat.le_of_ble_eq_true rfl⟩ rfl (Nat.le_of_ble_eq_true rfl) ⟨Nat.le_of_ble_eq_true rfl, Nat.le_of_ble_eq_true rfl⟩ rfl dX11_scale_73) h (fun f33 H locs p34 h => ?_)
        obtain ⟨tf33, ogf33, ⟨ac1_f33, kpu0_10f33, ipu0_10f33, rpu0_10f33⟩, ⟨rk1_f33, kRkqf33, pRkqf33⟩⟩ := p34
        have of33 : Fr [60, 63, 65, 66, 60001, 60011] τ f f33 := Fr.tr o_41 ogf33 (by decide) (by decide)
        have k35 := atp.fk k41_u0_6 ogf33 hu0 (by decide) (by decide)
        have k36 := atp.fk k41_u0_8 ogf33 hu0 (by decide) (by decide)
        have k37 := atp.fk k41_u0_9 ogf33 hu0 (by decide) (by decide)
        have k38 := atp.fr k41_bq_R ogf33 hbq (by decide)
        have k39 := atp.fr k41_fq_R ogf33 hfq (by decide)
        refine lv_iconst (v := 0) hx hb dX11_scale_76 (by decide) ?_
        refine lv_istore_n (lv' := [(3, .int 0), (0, .ref u0), (1, .int u1), (2, .int u2)]) hx hb dX11_scale_77 rfl hl (by decide) rfl (fun ls hl => ?_)
        exact L78 9 ls f33 H locs 0 rb ac1_f33 rk1_f33 (by decide) (lv_cons hl 1 rfl (lv_cons hl 2 rfl (lv_cons hl 3 rfl (lv_cons hl 0 rfl (lv_nil hl))))) h tf33 of33 ⟨by decide, by decide⟩ ipu0_10f33 k35 k36 k37 k38 k39 kpu0_10f33 kRkqf33 (show (rb 80).toInt = (rb 80).toInt from rfl) (show 0 ≤ u1.toInt ∧ u1.toInt < (rb 80).toInt by omega) (show 2 ≤ u2.toInt ∧ u2.toInt ≤ 9 by omega) (show ((ac.toInt = 12 → ac1_f33.toInt = 12) ∧ (ac.toInt ≠ 12 → ac1_f33.toInt = ac.toInt + 1)) by omega) (show ∀ k : Nat, k < 972 → rk1_f33 k = kp rk rb ac.toInt k from pRkqf33) (show ∀ k : Nat, rb k = if 10 * u1.toInt ≤ (k : Int) ∧ (k : Int) < 10 * u1.toInt + 0 then rb k * u2 else rb k from (by
            intro k; (repeat' split) <;> first | rfl | (exfalso; omega) | (exact congrArg _ (by omega)))) (show ∀ s : Nat, s < 8 → (rb (10 * u1.toInt + s).toNat * u2).toInt ≤ 9 from (fun s hs => hv41_1 s (by omega)))
      · have c29 : v41_3.toInt < 8 := Int32.lt_iff_toInt_lt.mp (iv_nle c26)
        have i30 : iv v41_3 0 7 := iv_Ll c29 iv41_3 (iv_k (x := 8) (k := 8) rfl) (by decide)
        refine lv_aload_n hx hb dX11_scale_47 rfl (lv_at hl 0 rfl) ?_
        refine lv_iload_n hx hb dX11_scale_48 rfl (lv_at hl 1 rfl) ?_
        refine lv_iload_n hx hb dX11_scale_49 rfl (lv_at hl 3 rfl) ?_
        obtain ⟨_, r40⟩ := t_rec t_41 hu0 (by decide) wf_60
        refine k_i (r_V C h hl (As := [.int u1, .int v41_3]) (rest := []) (s_X11_weightOfX l D G b0 τ f_41 t_41 u0 hu0 u1 jv41_1 v41_3 (iv_w i30 (by decide)) bq hbq k41_u0_6 rb k41_bq_R) r40 (Cn := RX11) (T := TX11) (N := 32) rfl rfl mk_X11_weightOf w_1631 w_1633 w_52 w_1634 ⟨Nat.le_of_ble_eq_true rfl, Nat.le_of_ble_eq_true rfl⟩ rfl (Nat.le_of_ble_eq_true rfl) ⟨Nat.le_of_ble_eq_true rfl, Nat.le_of_ble_eq_true rfl⟩ rfl dX11_scale_50) h (fun r41 f42 H locs p43 h => ?_)
        obtain ⟨ir41, tf42, ogf42, x0r41, x1r41⟩ := p43
        have egf42 := Fr.nil2 ogf42
        subst egf42
        refine lv_iload_n hx hb dX11_scale_53 rfl (lv_at hl 2 rfl) ?_
        refine i_mulp hx hb dX11_scale_54 ir41 jv41_2 (lo := 0) (hi := 81) (by decide) (fun z44 ez44 iz44 => ?_)
        refine lv_bipush (v := 9) hx hb dX11_scale_55 (by decide) ?_
        refine lv_icmp_le (tgt := 66) hx hb dX11_scale_57 (by decide) (fun c45 => ?_) (fun c45 => ?_)
        · have c46 : z44.toInt ≤ 9 := Int32.le_iff_toInt_le.mp c45
          have i47 : iv z44 0 9 := iv_El c46 iz44 (iv_k (x := 9) (k := 9) rfl) (by decide)
          refine i_inc hx hb dX11_scale_66 hl (k := 3) rfl i30 rfl (lo := 1) (hi := 8) (by decide) (by decide) (lv' := fun v => [(3, .int v), (0, .ref u0), (1, .int u1), (2, .int u2)]) (fun _ => rfl) (fun z50 ls ez50 mz50 iz50 hl => ?_)
          refine lv_goto (tgt := 41) hx hb dX11_scale_69 (by decide) ?_
          exact ih41 ls f_41 H locs z50 (show 8 - z50.toInt < _ by omega) (lv_cons hl 1 rfl (lv_cons hl 2 rfl (lv_cons hl 3 rfl (lv_cons hl 0 rfl (lv_nil hl))))) h t_41 o_41 jv41_1 jv41_2 (iv_w iz50 (by decide)) k41_u0_10 k41_u0_6 k41_u0_8 k41_u0_9 k41_bq_R k41_kq_R k41_fq_R (show (0 ≤ u1.toInt ∧ u1.toInt < (rb 80).toInt) ∧ 2 ≤ u2.toInt ∧ u2.toInt ≤ 9 by omega) (show ∀ s : Nat, (s : Int) < z50.toInt → (rb (10 * u1.toInt + s).toNat * u2).toInt ≤ 9 from (fun s hs => by
              by_cases q_ : (s : Int) < v41_3.toInt
              · exact hv41_1 s q_
              · rw [show (s : Int) = v41_3.toInt by omega, ← x0r41, ← ez44]; omega))
        · have c48 : 9 < z44.toInt := Int32.lt_iff_toInt_lt.mp (iv_nle c45)
          have i49 : iv z44 10 81 := iv_Lr c48 (iv_k (x := 9) (k := 9) rfl) iz44 (by decide)
          refine lv_aload_n hx hb dX11_scale_60 rfl (lv_at hl 0 rfl) ?_
          refine lv_iconst (v := 1) hx hb dX11_scale_61 (by decide) ?_
          obtain ⟨_, r51⟩ := t_rec t_41 hu0 (by decide) wf_60
          refine k_i (r_V C h hl (As := [.int 1]) (rest := []) (s_X11_refuseX l D G b0 τ f_41 t_41 u0 hu0 1 (iv_w (iv_k (x := 1) (k := 1) rfl) (by decide)) fq hfq k41_u0_9 rr k41_fq_R) r51 (Cn := RX11) (T := TX11) (N := 32) rfl rfl mk_X11_refuse w_1604 w_1606 w_48 w_1607 ⟨Nat.le_of_ble_eq_true rfl, Nat.le_of_ble_eq_true rfl⟩ rfl (Nat.le_of_ble_eq_true rfl) ⟨Nat.le_of_ble_eq_true rfl, Nat.le_of_ble_eq_true rfl⟩ rfl dX11_scale_62) h (fun r52 f53 H locs p54 h => ?_)
          obtain ⟨ir52, tf53, ogf53, ⟨rr1_f53, kRfqf53, pRfqf53⟩⟩ := p54
          have of53 : Fr [60, 63, 65, 66, 60001, 60011] τ f f53 := Fr.tr o_41 ogf53 (by decide) (by decide)
          have k55 := atp.fr k41_u0_10 ogf53 hu0 (by decide)
          have k56 := atp.fr k41_u0_6 ogf53 hu0 (by decide)
          have k57 := atp.fr k41_u0_8 ogf53 hu0 (by decide)
          have k58 := atp.fr k41_u0_9 ogf53 hu0 (by decide)
          have k59 := atp.fr k41_bq_R ogf53 hbq (by decide)
          have k60 := atp.fr k41_kq_R ogf53 hkq (by decide)
          exact u_iret C h hr hQ (⟨(iv_w ir52 (by decide)), tf53, of53, ⟨fun z_ => absurd z_ (fun z_ => by have h_ := z_.2.2 v41_3.toInt.toNat (by omega); rw [show ((v41_3.toInt.toNat : Nat) : Int) = v41_3.toInt by omega, ← x0r41, ← ez44] at h_; omega), fun _ => (by omega)⟩, ⟨ac, k55, hac, ⟨fun z_ => absurd z_ (fun z_ => by have h_ := z_.2.2 v41_3.toInt.toNat (by omega); rw [show ((v41_3.toInt.toNat : Nat) : Int) = v41_3.toInt by omega, ← x0r41, ← ez44] at h_; omega), fun _ => rfl⟩⟩, ⟨rb, k59, (fun k hk => by rw [if_neg (fun z_ => by have h_ := z_.2.2 v41_3.toInt.toNat (by omega); rw [show ((v41_3.toInt.toNat : Nat) : Int) = v41_3.toInt by omega, ← x0r41, ← ez44] at h_; omega)])⟩, ⟨rk, k60, (fun k hk => by rw [if_neg (fun z_ => by have h_ := z_.2.2 v41_3.toInt.toNat (by omega); rw [show ((v41_3.toInt.toNat : Nat) : Int) = v41_3.toInt by omega, ← x0r41, ← ez44] at h_; omega)])⟩, ⟨rr1_f53, kRfqf53, (bump_eq (c := 1) pRfqf53 rfl (by decide) (by rw [if_neg (by omega), if_neg (by omega), if_pos (fun z_ => by have h_ := z_ v41_3.toInt.toNat (by omega); rw [show ((v41_3.toInt.toNat : Nat) : Int) = v41_3.toInt by omega, ← x0r41, ← ez44] at h_; omega)]))⟩⟩) (Nat.le_of_ble_eq_true rfl) (Nat.le_of_ble_eq_true rfl) dX11_scale_65
  refine lv_aload_n hx hb dX11_scale_0 rfl (lv_at hl 0 rfl) ?_
  refine lv_iconst (v := 0) hx hb dX11_scale_1 (by decide) ?_
  refine t_put C h t o hu0 (by decide) (by decide) (by decide) wf_60 fw_60 (k := 0) rfl flw_X11_75 (Or.inr ⟨_, _, _, rfl, rfl⟩) (v := .int 0) rfl rfl ⟨_, rfl, ⟨by decide, by decide⟩⟩ dX11_scale_2 (fun f61 H locs h tf61 of61 hq ha_ hn_ hk_ => ?_)
  have k62 := hk_ 10 _ (by decide) k_u0_10
  have k63 := hk_ 6 _ (by decide) k_u0_6
  have k64 := hk_ 8 _ (by decide) k_u0_8
  have k65 := hk_ 9 _ (by decide) k_u0_9
  have k66 := atp.tg hRbq hq hbq (by decide)
  have k67 := atp.tg hRkq hq hkq (by decide)
  have k68 := atp.tg hRfq hq hfq (by decide)
  have k69 := ha_
  refine lv_aload_n hx hb dX11_scale_5 rfl (lv_at hl 0 rfl) ?_
  refine lv_iload_n hx hb dX11_scale_6 rfl (lv_at hl 1 rfl) ?_
  obtain ⟨_, r70⟩ := t_rec tf61 hu0 (by decide) wf_60
  refine k_i (r_V C h hl (As := [.int u1]) (rest := []) (s_X11_isSetX l D G b0 τ f61 tf61 u0 hu0 u1 hu1 bq hbq k63 rb k66) r70 (Cn := RX11) (T := TX11) (N := 32) rfl rfl mk_X11_isSet w_1620 w_1622 w_51 w_1623 ⟨Nat.le_of_ble_eq_true rfl, Nat.le_of_ble_eq_true rfl⟩ rfl (Nat.le_of_ble_eq_true rfl) ⟨Nat.le_of_ble_eq_true rfl, Nat.le_of_ble_eq_true rfl⟩ rfl dX11_scale_7) h (fun r71 f72 H locs p73 h => ?_)
  obtain ⟨ir71, tf72, ogf72, cnr71, czr71⟩ := p73
  have egf72 := Fr.nil2 ogf72
  subst egf72
  refine lv_if_ne (tgt := 19) hx hb dX11_scale_10 (by decide) (fun c74 => ?_) (fun c74 => ?_)
  · have c75 : r71.toInt ≠ 0 := fun z_ => c74 (Int32.toInt_inj.mp z_)
    have i76 : iv r71 1 1 := iv_Nl c75 ir71 (by decide)
    obtain ⟨i77, i78⟩ := cnr71 c75
    refine lv_iload_n hx hb dX11_scale_19 rfl (lv_at hl 2 rfl) ?_
    refine lv_i2l hx hb dX11_scale_20 rfl (i_topL hu2 (fun w82 ew82 mw82 iw82 => ?_))
    refine lv_ldc2 (v := 2) hx hb hown (hts _ w_1647) dX11_scale_21 ?_
    refine lv_ldc2 (v := 9) hx hb hown (hts _ w_1648) dX11_scale_24 ?_
    refine k_i (r_S C h hl (As := [.long w82, .long 2, .long 9]) (rest := []) (s_X11_isInX l D G b0 τ f61 tf61 w82 2 9) mk_X11_isIn w_1624 w_1625 w_1626 ⟨Nat.le_of_ble_eq_true rfl, Nat.le_of_ble_eq_true rfl⟩ rfl (Nat.le_of_ble_eq_true rfl) ⟨Nat.le_of_ble_eq_true rfl, Nat.le_of_ble_eq_true rfl⟩ rfl dX11_scale_27) h (fun r83 f84 H locs p85 h => ?_)
    have n86 : (2 : Int64).toInt = 2 := rfl
    have n87 : (9 : Int64).toInt = 9 := rfl
    obtain ⟨ir83, tf84, ogf84, cnr83, czr83⟩ := p85
    have egf84 := Fr.nil2 ogf84
    subst egf84
    refine lv_if_ne (tgt := 39) hx hb dX11_scale_30 (by decide) (fun c88 => ?_) (fun c88 => ?_)
    · have c89 : r83.toInt ≠ 0 := fun z_ => c88 (Int32.toInt_inj.mp z_)
      have i90 : iv r83 1 1 := iv_Nl c89 ir83 (by decide)
      obtain ⟨i91, i92⟩ := cnr83 c89
      have i93 : iv u2 2 9 := ⟨by omega, by omega⟩
      refine lv_iconst (v := 0) hx hb dX11_scale_39 (by decide) ?_
      refine lv_istore_n (lv' := [(3, .int 0), (0, .ref u0), (1, .int u1), (2, .int u2)]) hx hb dX11_scale_40 rfl hl (by decide) rfl (fun ls hl => ?_)
      exact L41 9 ls f61 H locs 0 (by decide) (lv_cons hl 1 rfl (lv_cons hl 2 rfl (lv_cons hl 3 rfl (lv_cons hl 0 rfl (lv_nil hl))))) h tf61 of61 i77 i93 ⟨by decide, by decide⟩ k62 k63 k64 k65 k66 k67 k68 (show (0 ≤ u1.toInt ∧ u1.toInt < (rb 80).toInt) ∧ 2 ≤ u2.toInt ∧ u2.toInt ≤ 9 by omega) (show ∀ s : Nat, (s : Int) < 0 → (rb (10 * u1.toInt + s).toNat * u2).toInt ≤ 9 from (fun s hs => by omega))
    · have c94 : r83.toInt = 0 := congrArg Int32.toInt c88
      have i95 : iv r83 0 0 := iv_Q c94 ir83 (iv_k (x := 0) (k := 0) rfl) (by decide)
      have i96 := czr83 c94
      refine lv_aload_n hx hb dX11_scale_33 rfl (lv_at hl 0 rfl) ?_
      refine lv_iconst (v := 1) hx hb dX11_scale_34 (by decide) ?_
      obtain ⟨_, r97⟩ := t_rec tf61 hu0 (by decide) wf_60
      refine k_i (r_V C h hl (As := [.int 1]) (rest := []) (s_X11_refuseX l D G b0 τ f61 tf61 u0 hu0 1 (iv_w (iv_k (x := 1) (k := 1) rfl) (by decide)) fq hfq k65 rr k68) r97 (Cn := RX11) (T := TX11) (N := 32) rfl rfl mk_X11_refuse w_1604 w_1606 w_48 w_1607 ⟨Nat.le_of_ble_eq_true rfl, Nat.le_of_ble_eq_true rfl⟩ rfl (Nat.le_of_ble_eq_true rfl) ⟨Nat.le_of_ble_eq_true rfl, Nat.le_of_ble_eq_true rfl⟩ rfl dX11_scale_35) h (fun r98 f99 H locs p100 h => ?_)
      obtain ⟨ir98, tf99, ogf99, ⟨rr1_f99, kRfqf99, pRfqf99⟩⟩ := p100
      have of99 : Fr [60, 63, 65, 66, 60001, 60011] τ f f99 := Fr.tr of61 ogf99 (by decide) (by decide)
      have k101 := atp.fr k62 ogf99 hu0 (by decide)
      have k102 := atp.fr k63 ogf99 hu0 (by decide)
      have k103 := atp.fr k64 ogf99 hu0 (by decide)
      have k104 := atp.fr k65 ogf99 hu0 (by decide)
      have k105 := atp.fr k66 ogf99 hbq (by decide)
      have k106 := atp.fr k67 ogf99 hkq (by decide)
      exact u_iret C h hr hQ (⟨(iv_w ir98 (by decide)), tf99, of99, ⟨fun z_ => absurd z_ (fun z_ => by have h1_ := z_.1; have h2_ := z_.2.1; omega), fun _ => (by omega)⟩, ⟨ac, k101, hac, ⟨fun z_ => absurd z_ (fun z_ => by have h1_ := z_.1; have h2_ := z_.2.1; omega), fun _ => rfl⟩⟩, ⟨rb, k105, (fun k hk => by rw [if_neg (fun z_ => by have h1_ := z_.1; have h2_ := z_.2.1; omega)])⟩, ⟨rk, k106, (fun k hk => by rw [if_neg (fun z_ => by have h1_ := z_.1; have h2_ := z_.2.1; omega)])⟩, ⟨rr1_f99, kRfqf99, (bump_eq (c := 1) pRfqf99 rfl (by decide) (by rw [if_neg (by omega), if_pos (by omega)]))⟩⟩) (Nat.le_of_ble_eq_true rfl) (Nat.le_of_ble_eq_true rfl) dX11_scale_38
  · have c79 : r71.toInt = 0 := congrArg Int32.toInt c74
    have i80 : iv r71 0 0 := iv_Q c79 ir71 (iv_k (x := 0) (k := 0) rfl) (by decide)
    have i81 := czr71 c79
    refine lv_aload_n hx hb dX11_scale_13 rfl (lv_at hl 0 rfl) ?_
    refine lv_iconst (v := 0) hx hb dX11_scale_14 (by decide) ?_
    obtain ⟨_, r107⟩ := t_rec tf61 hu0 (by decide) wf_60
    refine k_i (r_V C h hl (As := [.int 0]) (rest := []) (s_X11_refuseX l D G b0 τ f61 tf61 u0 hu0 0 (iv_w (iv_k (x := 0) (k := 0) rfl) (by decide)) fq hfq k65 rr k68) r107 (Cn := RX11) (T := TX11) (N := 32) rfl rfl mk_X11_refuse w_1604 w_1606 w_48 w_1607 ⟨Nat.le_of_ble_eq_true rfl, Nat.le_of_ble_eq_true rfl⟩ rfl (Nat.le_of_ble_eq_true rfl) ⟨Nat.le_of_ble_eq_true rfl, Nat.le_of_ble_eq_true rfl⟩ rfl dX11_scale_15) h (fun r108 f109 H locs p110 h => ?_)
    obtain ⟨ir108, tf109, ogf109, ⟨rr1_f109, kRfqf109, pRfqf109⟩⟩ := p110
    have of109 : Fr [60, 63, 65, 66, 60001, 60011] τ f f109 := Fr.tr of61 ogf109 (by decide) (by decide)
    have k111 := atp.fr k62 ogf109 hu0 (by decide)
    have k112 := atp.fr k63 ogf109 hu0 (by decide)
    have k113 := atp.fr k64 ogf109 hu0 (by decide)
    have k114 := atp.fr k65 ogf109 hu0 (by decide)
    have k115 := atp.fr k66 ogf109 hbq (by decide)
    have k116 := atp.fr k67 ogf109 hkq (by decide)
    exact u_iret C h hr hQ (⟨(iv_w ir108 (by decide)), tf109, of109, ⟨fun z_ => absurd z_ (fun z_ => by have h1_ := z_.1; have h2_ := z_.2.1; omega), fun _ => (by omega)⟩, ⟨ac, k111, hac, ⟨fun z_ => absurd z_ (fun z_ => by have h1_ := z_.1; have h2_ := z_.2.1; omega), fun _ => rfl⟩⟩, ⟨rb, k115, (fun k hk => by rw [if_neg (fun z_ => by have h1_ := z_.1; have h2_ := z_.2.1; omega)])⟩, ⟨rk, k116, (fun k hk => by rw [if_neg (fun z_ => by have h1_ := z_.1; have h2_ := z_.2.1; omega)])⟩, ⟨rr1_f109, kRfqf109, (bump_eq (c := 0) pRfqf109 rfl (by decide) (by rw [if_pos (by omega)]))⟩⟩) (Nat.le_of_ble_eq_true rfl) (Nat.le_of_ble_eq_true rfl) dX11_scale_18
abbrev rm_s_X11_stepsOfX : Room := { frames := 1, cells := 0, slots := 0, locals := 22 }
set_option maxRecDepth 100000 in
set_option maxHeartbeats 4000000 in
theorem s_X11_stepsOfX (l : Launch) (D : va_G) (G : Nat → Nat) (b0 : Nat) (τ : Nat → Nat) (f : hM) (t : TI G 9 τ f) (u0 : Nat) (hu0 : τ u0 = 60) (u1 : Int32) (hu1 : iv u1 0 7) (bq : Nat) (hbq : τ bq = 63) (k_u0_6 : atp f u0 (fd 6 (.ref bq))) (rb : Nat → Int32) (hRbq : atp f bq (eqc (.inl (G 1, 81, .inl rb)))) : mI l yX11_stepsOf cX11_stepsOf 4 (.int) rm_s_X11_stepsOfX D G b0 f [.ref u0, .int u1] (fun r f1 => iv r 0 8 ∧ TI G 9 τ f1 ∧ Fr [] τ f f1 ∧ (r.toInt = cnt rb u1.toInt 8)) := by
  refine met2 (own := RX11) (by decide) rfl (Nat.le_of_ble_eq_true rfl) ?_
  intro p e s m args below meth c ls Q hQ C hr hini hl h
  have hl : lv_has ls 4 [(0, .ref u0), (1, .int u1)] := hl
  obtain ⟨hx, hb, hml, hown, hts, hE0, hlk⟩ := id C
  have o := Fr.rf [] τ f
  have L4 : ∀ (n4 : Nat) (ls : Array Slot) (f_4 : hM) (H : Heap) (locs : List Loc) (v4_2 : Int32) (v4_3 : Int32), 8 - v4_3.toInt < (n4 : Int) → lv_has ls 4 [(0, .ref u0), (1, .int u1), (2, .int v4_2), (3, .int v4_3)] → hw D b0 s.heap f_4 H locs → TI G 9 τ f_4 → Fr [] τ f f_4 → iv v4_2 0 8 → iv v4_3 0 8 → atp f_4 u0 (fd 6 (.ref bq)) → atp f_4 bq (eqc (.inl (G 1, 81, .inl rb))) → (v4_2.toInt = cnt rb u1.toInt (Int.toNat (v4_3.toInt))) → v4_2.toInt ≤ v4_3.toInt → W p l e rm_s_X11_stepsOfX s m args below meth c H locs 0 0 Q (F0 m 4 ls []) := by
    intro n4
    induction n4 with
    | zero => intro ls f_4 H locs v4_2 v4_3 hm4 hl h t_4 o_4 iv4_2 iv4_3 k4_u0_6 k4_bq_R hv4_0 hv4_1; exact absurd hm4 (by omega)
    | succ n4 ih4 =>
      intro ls f_4 H locs v4_2 v4_3 hm4 hl h t_4 o_4 iv4_2 iv4_3 k4_u0_6 k4_bq_R hv4_0 hv4_1
      refine lv_iload_n hx hb dX11_stepsOf_4 rfl (lv_at hl 3 rfl) ?_
      refine lv_bipush (v := 8) hx hb dX11_stepsOf_5 (by decide) ?_
      refine lv_icmp_ge (tgt := 33) hx hb dX11_stepsOf_7 (by decide) (fun c1 => ?_) (fun c1 => ?_)
      · have c2 : 8 ≤ v4_3.toInt := Int32.le_iff_toInt_le.mp c1
        have i3 : iv v4_3 8 8 := iv_Er c2 (iv_k (x := 8) (k := 8) rfl) iv4_3 (by decide)
        refine lv_iload_n hx hb dX11_stepsOf_33 rfl (lv_at hl 2 rfl) ?_
        exact u_iret C h hr hQ (⟨iv4_2, t_4, o_4, (by rw [hv4_0, show v4_3.toInt.toNat = 8 by omega])⟩) (Nat.le_of_ble_eq_true rfl) (Nat.le_of_ble_eq_true rfl) dX11_stepsOf_34
      · have c4 : v4_3.toInt < 8 := Int32.lt_iff_toInt_lt.mp (iv_nle c1)
        have i5 : iv v4_3 0 7 := iv_Ll c4 iv4_3 (iv_k (x := 8) (k := 8) rfl) (by decide)
        refine lv_iload_n hx hb dX11_stepsOf_10 rfl (lv_at hl 2 rfl) ?_
        refine lv_aload_n hx hb dX11_stepsOf_11 rfl (lv_at hl 0 rfl) ?_
        refine lv_iload_n hx hb dX11_stepsOf_12 rfl (lv_at hl 1 rfl) ?_
        refine lv_iload_n hx hb dX11_stepsOf_13 rfl (lv_at hl 3 rfl) ?_
        obtain ⟨_, r6⟩ := t_rec t_4 hu0 (by decide) wf_60
        refine k_i (r_V C h hl (As := [.int u1, .int v4_3]) (rest := [.int v4_2]) (s_X11_weightOfX l D G b0 τ f_4 t_4 u0 hu0 u1 hu1 v4_3 (iv_w i5 (by decide)) bq hbq k4_u0_6 rb k4_bq_R) r6 (Cn := RX11) (T := TX11) (N := 32) rfl rfl mk_X11_weightOf w_1631 w_1633 w_52 w_1634 ⟨Nat.le_of_ble_eq_true rfl, Nat.le_of_ble_eq_true rfl⟩ rfl (Nat.le_of_ble_eq_true rfl) ⟨Nat.le_of_ble_eq_true rfl, Nat.le_of_ble_eq_true rfl⟩ rfl dX11_stepsOf_14) h (fun r7 f8 H locs p9 h => ?_)
        obtain ⟨ir7, tf8, ogf8, x0r7, x1r7⟩ := p9
        have egf8 := Fr.nil2 ogf8
        subst egf8
        refine lv_if_le (tgt := 24) hx hb dX11_stepsOf_17 (by decide) (fun c10 => ?_) (fun c10 => ?_)
        · have c11 : r7.toInt ≤ 0 := Int32.le_iff_toInt_le.mp c10
          have i12 : iv r7 0 0 := iv_El c11 ir7 (iv_k (x := 0) (k := 0) rfl) (by decide)
          refine lv_iconst (v := 0) hx hb dX11_stepsOf_24 (by decide) ?_
          refine i_addk hx hb dX11_stepsOf_25 iv4_2 (k := 0) rfl (lo := 0) (hi := 8) (by decide) (fun z15 ez15 mz15 iz15 => ?_)
          refine lv_istore_n (lv' := [(2, .int z15), (0, .ref u0), (1, .int u1), (3, .int v4_3)]) hx hb dX11_stepsOf_26 rfl hl (by decide) rfl (fun ls hl => ?_)
          refine i_inc hx hb dX11_stepsOf_27 hl (k := 3) rfl i5 rfl (lo := 1) (hi := 8) (by decide) (by decide) (lv' := fun v => [(3, .int v), (2, .int z15), (0, .ref u0), (1, .int u1)]) (fun _ => rfl) (fun z16 ls ez16 mz16 iz16 hl => ?_)
          refine lv_goto (tgt := 4) hx hb dX11_stepsOf_30 (by decide) ?_
          exact ih4 ls f_4 H locs z15 z16 (show 8 - z16.toInt < _ by omega) (lv_cons hl 2 rfl (lv_cons hl 3 rfl (lv_cons hl 1 rfl (lv_cons hl 0 rfl (lv_nil hl))))) h t_4 o_4 iz15 (iv_w iz16 (by decide)) k4_u0_6 k4_bq_R (show z15.toInt = cnt rb u1.toInt (Int.toNat (z16.toInt)) from (by rw [cnt_s (i := v4_3.toInt) (by omega) (by omega), ← hv4_0, ← x1r7]; split <;> omega)) (show z15.toInt ≤ z16.toInt by omega)
        · have c13 : 0 < r7.toInt := Int32.lt_iff_toInt_lt.mp (iv_nle c10)
          have i14 : iv r7 1 9 := iv_Lr c13 (iv_k (x := 0) (k := 0) rfl) ir7 (by decide)
          refine lv_iconst (v := 1) hx hb dX11_stepsOf_20 (by decide) ?_
          refine lv_goto (tgt := 25) hx hb dX11_stepsOf_21 (by decide) ?_
          refine i_addk hx hb dX11_stepsOf_25 iv4_2 (k := 1) rfl (lo := 1) (hi := 9) (by decide) (fun z17 ez17 mz17 iz17 => ?_)
          refine lv_istore_n (lv' := [(2, .int z17), (0, .ref u0), (1, .int u1), (3, .int v4_3)]) hx hb dX11_stepsOf_26 rfl hl (by decide) rfl (fun ls hl => ?_)
          refine i_inc hx hb dX11_stepsOf_27 hl (k := 3) rfl i5 rfl (lo := 1) (hi := 8) (by decide) (by decide) (lv' := fun v => [(3, .int v), (2, .int z17), (0, .ref u0), (1, .int u1)]) (fun _ => rfl) (fun z18 ls ez18 mz18 iz18 hl => ?_)
          refine lv_goto (tgt := 4) hx hb dX11_stepsOf_30 (by decide) ?_
          exact ih4 ls f_4 H locs z17 z18 (show 8 - z18.toInt < _ by omega) (lv_cons hl 2 rfl (lv_cons hl 3 rfl (lv_cons hl 1 rfl (lv_cons hl 0 rfl (lv_nil hl))))) h t_4 o_4 (show iv z17 0 8 from by omega) (iv_w iz18 (by decide)) k4_u0_6 k4_bq_R (show z17.toInt = cnt rb u1.toInt (Int.toNat (z18.toInt)) from (by rw [cnt_s (i := v4_3.toInt) (by omega) (by omega), ← hv4_0, ← x1r7]; split <;> omega)) (show z17.toInt ≤ z18.toInt by omega)
  refine lv_iconst (v := 0) hx hb dX11_stepsOf_0 (by decide) ?_
  refine lv_istore_n (lv' := [(2, .int 0), (0, .ref u0), (1, .int u1)]) hx hb dX11_stepsOf_1 rfl hl (by decide) rfl (fun ls hl => ?_)
  refine lv_iconst (v := 0) hx hb dX11_stepsOf_2 (by decide) ?_
  refine lv_istore_n (lv' := [(3, .int 0), (2, .int 0), (0, .ref u0), (1, .int u1)]) hx hb dX11_stepsOf_3 rfl hl (by decide) rfl (fun ls hl => ?_)
  exact L4 9 ls f s.heap [] 0 0 (by decide) (lv_cons hl 2 rfl (lv_cons hl 3 rfl (lv_cons hl 1 rfl (lv_cons hl 0 rfl (lv_nil hl))))) h t o ⟨by decide, by decide⟩ ⟨by decide, by decide⟩ k_u0_6 hRbq (show 0 = cnt rb u1.toInt (Int.toNat (0)) from rfl) (show 0 ≤ 0 by omega)
abbrev rm_s_X11_weighX : Room := { frames := 2, cells := 0, slots := 0, locals := 46 }
set_option maxRecDepth 100000 in
set_option maxHeartbeats 4000000 in
theorem s_X11_weighX (l : Launch) (D : va_G) (G : Nat → Nat) (b0 : Nat) (τ : Nat → Nat) (f : hM) (t : TI G 9 τ f) (u0 : Nat) (hu0 : τ u0 = 60) (u1 : Int32) (hu1 : iv u1 (-2147483648) 2147483647) (u2 : Int32) (hu2 : iv u2 (-2147483648) 2147483647) (u3 : Int32) (hu3 : iv u3 (-2147483648) 2147483647) (ac : Int32) (hac : iv ac 0 12) (k_u0_10 : atp f u0 (fd 10 (.int ac))) (bq : Nat) (hbq : τ bq = 63) (k_u0_6 : atp f u0 (fd 6 (.ref bq))) (kq : Nat) (hkq : τ kq = 65) (k_u0_8 : atp f u0 (fd 8 (.ref kq))) (fq : Nat) (hfq : τ fq = 66) (k_u0_9 : atp f u0 (fd 9 (.ref fq))) (rb : Nat → Int32) (hRbq : atp f bq (eqc (.inl (G 1, 81, .inl rb)))) (rk : Nat → Int32) (hRkq : atp f kq (eqc (.inl (G 1, 972, .inl rk)))) (rr : Nat → Int32) (hRfq : atp f fq (eqc (.inl (G 1, 4, .inl rr)))) : mI l yX11_weigh cX11_weigh 5 (.int) rm_s_X11_weighX D G b0 f [.ref u0, .int u1, .int u2, .int u3] (fun r f1 => iv r (-1) 9 ∧ TI G 9 τ f1 ∧ Fr [60, 63, 65, 66, 60001, 60011] τ f f1 ∧ (((((0 ≤ u1.toInt ∧ u1.toInt < (rb 80).toInt) ∧ (0 ≤ u2.toInt ∧ u2.toInt ≤ 7) ∧ (0 ≤ u3.toInt ∧ u3.toInt ≤ 9) ∧ ¬ (u3.toInt = 0 ∧ 0 < (rb (10 * u1.toInt + u2.toInt).toNat).toInt ∧ cnt rb u1.toInt 8 = 1) ∧ (rb (10 * u1.toInt + u2.toInt).toNat).toInt ≠ u3.toInt)) → r.toInt = (rb (10 * u1.toInt + u2.toInt).toNat).toInt) ∧ (¬ (((0 ≤ u1.toInt ∧ u1.toInt < (rb 80).toInt) ∧ (0 ≤ u2.toInt ∧ u2.toInt ≤ 7) ∧ (0 ≤ u3.toInt ∧ u3.toInt ≤ 9) ∧ ¬ (u3.toInt = 0 ∧ 0 < (rb (10 * u1.toInt + u2.toInt).toNat).toInt ∧ cnt rb u1.toInt 8 = 1) ∧ (rb (10 * u1.toInt + u2.toInt).toNat).toInt ≠ u3.toInt)) → r.toInt = -1)) ∧ (∃ ac1 : Int32, atp f1 u0 (fd 10 (.int ac1)) ∧ iv ac1 0 12 ∧ ((((0 ≤ u1.toInt ∧ u1.toInt < (rb 80).toInt) ∧ (0 ≤ u2.toInt ∧ u2.toInt ≤ 7) ∧ (0 ≤ u3.toInt ∧ u3.toInt ≤ 9) ∧ ¬ (u3.toInt = 0 ∧ 0 < (rb (10 * u1.toInt + u2.toInt).toNat).toInt ∧ cnt rb u1.toInt 8 = 1) ∧ (rb (10 * u1.toInt + u2.toInt).toNat).toInt ≠ u3.toInt)) → ((ac.toInt = 12 → ac1.toInt = 12) ∧ (ac.toInt ≠ 12 → ac1.toInt = ac.toInt + 1))) ∧ (¬ (((0 ≤ u1.toInt ∧ u1.toInt < (rb 80).toInt) ∧ (0 ≤ u2.toInt ∧ u2.toInt ≤ 7) ∧ (0 ≤ u3.toInt ∧ u3.toInt ≤ 9) ∧ ¬ (u3.toInt = 0 ∧ 0 < (rb (10 * u1.toInt + u2.toInt).toNat).toInt ∧ cnt rb u1.toInt 8 = 1) ∧ (rb (10 * u1.toInt + u2.toInt).toNat).toInt ≠ u3.toInt)) → ac1.toInt = ac.toInt)) ∧ (∃ rb1 : Nat → Int32, atp f1 bq (eqc (.inl (G 1, 81, .inl rb1))) ∧ (∀ k : Nat, k < 81 → rb1 k = if ((0 ≤ u1.toInt ∧ u1.toInt < (rb 80).toInt) ∧ (0 ≤ u2.toInt ∧ u2.toInt ≤ 7) ∧ (0 ≤ u3.toInt ∧ u3.toInt ≤ 9) ∧ ¬ (u3.toInt = 0 ∧ 0 < (rb (10 * u1.toInt + u2.toInt).toNat).toInt ∧ cnt rb u1.toInt 8 = 1) ∧ (rb (10 * u1.toInt + u2.toInt).toNat).toInt ≠ u3.toInt) then we rb u1.toInt u2.toInt u3 k else rb k)) ∧ (∃ rk1 : Nat → Int32, atp f1 kq (eqc (.inl (G 1, 972, .inl rk1))) ∧ (∀ k : Nat, k < 972 → rk1 k = if ((0 ≤ u1.toInt ∧ u1.toInt < (rb 80).toInt) ∧ (0 ≤ u2.toInt ∧ u2.toInt ≤ 7) ∧ (0 ≤ u3.toInt ∧ u3.toInt ≤ 9) ∧ ¬ (u3.toInt = 0 ∧ 0 < (rb (10 * u1.toInt + u2.toInt).toNat).toInt ∧ cnt rb u1.toInt 8 = 1) ∧ (rb (10 * u1.toInt + u2.toInt).toNat).toInt ≠ u3.toInt) then kp rk rb ac.toInt k else rk k)) ∧ (∃ rr1 : Nat → Int32, atp f1 fq (eqc (.inl (G 1, 4, .inl rr1))) ∧ (∀ k : Nat, k < 4 → rr1 k = if (k : Int) = (if ¬ (0 ≤ u1.toInt ∧ u1.toInt < (rb 80).toInt) then 0 else (if ¬ (0 ≤ u2.toInt ∧ u2.toInt ≤ 7) ∨ ¬ (0 ≤ u3.toInt ∧ u3.toInt ≤ 9) ∨ (u3.toInt = 0 ∧ 0 < (rb (10 * u1.toInt + u2.toInt).toNat).toInt ∧ cnt rb u1.toInt 8 = 1) then 1 else (if (rb (10 * u1.toInt + u2.toInt).toNat).toInt = u3.toInt then 3 else -1))) then rr k + 1 else rr k))) := by
  refine met2 (own := RX11) (by decide) rfl (Nat.le_of_ble_eq_true rfl) ?_
  intro p e s m args below meth c ls Q hQ C hr hini hl h
  have hl : lv_has ls 5 [(0, .ref u0), (1, .int u1), (2, .int u2), (3, .int u3)] := hl
  obtain ⟨hx, hb, hml, hown, hts, hE0, hlk⟩ := id C
  have o := Fr.rf [60, 63, 65, 66, 60001, 60011] τ f
  refine lv_aload_n hx hb dX11_weigh_0 rfl (lv_at hl 0 rfl) ?_
  refine lv_iconst (v := 0) hx hb dX11_weigh_1 (by decide) ?_
  refine t_put C h t o hu0 (by decide) (by decide) (by decide) wf_60 fw_60 (k := 0) rfl flw_X11_75 (Or.inr ⟨_, _, _, rfl, rfl⟩) (v := .int 0) rfl rfl ⟨_, rfl, ⟨by decide, by decide⟩⟩ dX11_weigh_2 (fun f1 H locs h tf1 of1 hq ha_ hn_ hk_ => ?_)
  have k2 := hk_ 10 _ (by decide) k_u0_10
  have k3 := hk_ 6 _ (by decide) k_u0_6
  have k4 := hk_ 8 _ (by decide) k_u0_8
  have k5 := hk_ 9 _ (by decide) k_u0_9
  have k6 := atp.tg hRbq hq hbq (by decide)
  have k7 := atp.tg hRkq hq hkq (by decide)
  have k8 := atp.tg hRfq hq hfq (by decide)
  have k9 := ha_
  refine lv_aload_n hx hb dX11_weigh_5 rfl (lv_at hl 0 rfl) ?_
  refine lv_iload_n hx hb dX11_weigh_6 rfl (lv_at hl 1 rfl) ?_
  obtain ⟨_, r10⟩ := t_rec tf1 hu0 (by decide) wf_60
  refine k_i (r_V C h hl (As := [.int u1]) (rest := []) (s_X11_isSetX l D G b0 τ f1 tf1 u0 hu0 u1 hu1 bq hbq k3 rb k6) r10 (Cn := RX11) (T := TX11) (N := 32) rfl rfl mk_X11_isSet w_1620 w_1622 w_51 w_1623 ⟨Nat.le_of_ble_eq_true rfl, Nat.le_of_ble_eq_true rfl⟩ rfl (Nat.le_of_ble_eq_true rfl) ⟨Nat.le_of_ble_eq_true rfl, Nat.le_of_ble_eq_true rfl⟩ rfl dX11_weigh_7) h (fun r11 f12 H locs p13 h => ?_)
  obtain ⟨ir11, tf12, ogf12, cnr11, czr11⟩ := p13
  have egf12 := Fr.nil2 ogf12
  subst egf12
  refine lv_if_ne (tgt := 19) hx hb dX11_weigh_10 (by decide) (fun c14 => ?_) (fun c14 => ?_)
  · have c15 : r11.toInt ≠ 0 := fun z_ => c14 (Int32.toInt_inj.mp z_)
    have i16 : iv r11 1 1 := iv_Nl c15 ir11 (by decide)
    obtain ⟨i17, i18⟩ := cnr11 c15
    refine lv_iload_n hx hb dX11_weigh_19 rfl (lv_at hl 2 rfl) ?_
    refine lv_i2l hx hb dX11_weigh_20 rfl (i_topL hu2 (fun w22 ew22 mw22 iw22 => ?_))
    refine lv_lconst (v := 0) hx hb dX11_weigh_21 (by decide) ?_
    refine lv_ldc2 (v := 7) hx hb hown (hts _ w_1657) dX11_weigh_22 ?_
    refine k_i (r_S C h hl (As := [.long w22, .long 0, .long 7]) (rest := []) (s_X11_isInX l D G b0 τ f1 tf1 w22 0 7) mk_X11_isIn w_1624 w_1625 w_1626 ⟨Nat.le_of_ble_eq_true rfl, Nat.le_of_ble_eq_true rfl⟩ rfl (Nat.le_of_ble_eq_true rfl) ⟨Nat.le_of_ble_eq_true rfl, Nat.le_of_ble_eq_true rfl⟩ rfl dX11_weigh_25) h (fun r23 f24 H locs p25 h => ?_)
    have n26 : (0 : Int64).toInt = 0 := rfl
    have n27 : (7 : Int64).toInt = 7 := rfl
    obtain ⟨ir23, tf24, ogf24, cnr23, czr23⟩ := p25
    have egf24 := Fr.nil2 ogf24
    subst egf24
    refine lv_if_eq (tgt := 65) hx hb dX11_weigh_28 (by decide) (fun c28 => ?_) (fun c28 => ?_)
    · have c29 : r23.toInt = 0 := congrArg Int32.toInt c28
      have i30 : iv r23 0 0 := iv_Q c29 ir23 (iv_k (x := 0) (k := 0) rfl) (by decide)
      have i31 := czr23 c29
      refine lv_aload_n hx hb dX11_weigh_65 rfl (lv_at hl 0 rfl) ?_
      refine lv_iconst (v := 1) hx hb dX11_weigh_66 (by decide) ?_
      obtain ⟨_, r37⟩ := t_rec tf1 hu0 (by decide) wf_60
      refine k_i (r_V C h hl (As := [.int 1]) (rest := []) (s_X11_refuseX l D G b0 τ f1 tf1 u0 hu0 1 (iv_w (iv_k (x := 1) (k := 1) rfl) (by decide)) fq hfq k5 rr k8) r37 (Cn := RX11) (T := TX11) (N := 32) rfl rfl mk_X11_refuse w_1604 w_1606 w_48 w_1607 ⟨Nat.le_of_ble_eq_true rfl, Nat.le_of_ble_eq_true rfl⟩ rfl (Nat.le_of_ble_eq_true rfl) ⟨Nat.le_of_ble_eq_true rfl, Nat.le_of_ble_eq_true rfl⟩ rfl dX11_weigh_67) h (fun r38 f39 H locs p40 h => ?_)
      obtain ⟨ir38, tf39, ogf39, ⟨rr1_f39, kRfqf39, pRfqf39⟩⟩ := p40
      have of39 : Fr [60, 63, 65, 66, 60001, 60011] τ f f39 := Fr.tr of1 ogf39 (by decide) (by decide)
      have k41 := atp.fr k2 ogf39 hu0 (by decide)
      have k42 := atp.fr k3 ogf39 hu0 (by decide)
      have k43 := atp.fr k4 ogf39 hu0 (by decide)
      have k44 := atp.fr k5 ogf39 hu0 (by decide)
      have k45 := atp.fr k6 ogf39 hbq (by decide)
      have k46 := atp.fr k7 ogf39 hkq (by decide)
      exact u_iret C h hr hQ (⟨(iv_w ir38 (by decide)), tf39, of39, ⟨fun z_ => absurd z_ (by omega), fun _ => (by omega)⟩, ⟨ac, k41, hac, ⟨fun z_ => absurd z_ (by omega), fun _ => rfl⟩⟩, ⟨rb, k45, (fun k hk => by rw [if_neg (by omega)])⟩, ⟨rk, k46, (fun k hk => by rw [if_neg (by omega)])⟩, ⟨rr1_f39, kRfqf39, (bump_eq (c := 1) pRfqf39 rfl (by decide) (by rw [if_neg (by omega), if_pos (by omega)]))⟩⟩) (Nat.le_of_ble_eq_true rfl) (Nat.le_of_ble_eq_true rfl) dX11_weigh_70
    · have c32 : r23.toInt ≠ 0 := fun z_ => c28 (Int32.toInt_inj.mp z_)
      have i33 : iv r23 1 1 := iv_Nl c32 ir23 (by decide)
      obtain ⟨i34, i35⟩ := cnr23 c32
      have i36 : iv u2 0 7 := ⟨by omega, by omega⟩
      refine lv_iload_n hx hb dX11_weigh_31 rfl (lv_at hl 3 rfl) ?_
      refine lv_i2l hx hb dX11_weigh_32 rfl (i_topL hu3 (fun w47 ew47 mw47 iw47 => ?_))
      refine lv_lconst (v := 0) hx hb dX11_weigh_33 (by decide) ?_
      refine lv_ldc2 (v := 9) hx hb hown (hts _ w_1648) dX11_weigh_34 ?_
      refine k_i (r_S C h hl (As := [.long w47, .long 0, .long 9]) (rest := []) (s_X11_isInX l D G b0 τ f1 tf1 w47 0 9) mk_X11_isIn w_1624 w_1625 w_1626 ⟨Nat.le_of_ble_eq_true rfl, Nat.le_of_ble_eq_true rfl⟩ rfl (Nat.le_of_ble_eq_true rfl) ⟨Nat.le_of_ble_eq_true rfl, Nat.le_of_ble_eq_true rfl⟩ rfl dX11_weigh_37) h (fun r48 f49 H locs p50 h => ?_)
      have n51 : (0 : Int64).toInt = 0 := rfl
      have n52 : (9 : Int64).toInt = 9 := rfl
      obtain ⟨ir48, tf49, ogf49, cnr48, czr48⟩ := p50
      have egf49 := Fr.nil2 ogf49
      subst egf49
      refine lv_if_eq (tgt := 65) hx hb dX11_weigh_40 (by decide) (fun c53 => ?_) (fun c53 => ?_)
      · have c54 : r48.toInt = 0 := congrArg Int32.toInt c53
        have i55 : iv r48 0 0 := iv_Q c54 ir48 (iv_k (x := 0) (k := 0) rfl) (by decide)
        have i56 := czr48 c54
        refine lv_aload_n hx hb dX11_weigh_65 rfl (lv_at hl 0 rfl) ?_
        refine lv_iconst (v := 1) hx hb dX11_weigh_66 (by decide) ?_
        obtain ⟨_, r62⟩ := t_rec tf1 hu0 (by decide) wf_60
        refine k_i (r_V C h hl (As := [.int 1]) (rest := []) (s_X11_refuseX l D G b0 τ f1 tf1 u0 hu0 1 (iv_w (iv_k (x := 1) (k := 1) rfl) (by decide)) fq hfq k5 rr k8) r62 (Cn := RX11) (T := TX11) (N := 32) rfl rfl mk_X11_refuse w_1604 w_1606 w_48 w_1607 ⟨Nat.le_of_ble_eq_true rfl, Nat.le_of_ble_eq_true rfl⟩ rfl (Nat.le_of_ble_eq_true rfl) ⟨Nat.le_of_ble_eq_true rfl, Nat.le_of_ble_eq_true rfl⟩ rfl dX11_weigh_67) h (fun r63 f64 H locs p65 h => ?_)
        obtain ⟨ir63, tf64, ogf64, ⟨rr1_f64, kRfqf64, pRfqf64⟩⟩ := p65
        have of64 : Fr [60, 63, 65, 66, 60001, 60011] τ f f64 := Fr.tr of1 ogf64 (by decide) (by decide)
        have k66 := atp.fr k2 ogf64 hu0 (by decide)
        have k67 := atp.fr k3 ogf64 hu0 (by decide)
        have k68 := atp.fr k4 ogf64 hu0 (by decide)
        have k69 := atp.fr k5 ogf64 hu0 (by decide)
        have k70 := atp.fr k6 ogf64 hbq (by decide)
        have k71 := atp.fr k7 ogf64 hkq (by decide)
        exact u_iret C h hr hQ (⟨(iv_w ir63 (by decide)), tf64, of64, ⟨fun z_ => absurd z_ (by omega), fun _ => (by omega)⟩, ⟨ac, k66, hac, ⟨fun z_ => absurd z_ (by omega), fun _ => rfl⟩⟩, ⟨rb, k70, (fun k hk => by rw [if_neg (by omega)])⟩, ⟨rk, k71, (fun k hk => by rw [if_neg (by omega)])⟩, ⟨rr1_f64, kRfqf64, (bump_eq (c := 1) pRfqf64 rfl (by decide) (by rw [if_neg (by omega), if_pos (by omega)]))⟩⟩) (Nat.le_of_ble_eq_true rfl) (Nat.le_of_ble_eq_true rfl) dX11_weigh_70
      · have c57 : r48.toInt ≠ 0 := fun z_ => c53 (Int32.toInt_inj.mp z_)
        have i58 : iv r48 1 1 := iv_Nl c57 ir48 (by decide)
        obtain ⟨i59, i60⟩ := cnr48 c57
        have i61 : iv u3 0 9 := ⟨by omega, by omega⟩
        refine lv_iload_n hx hb dX11_weigh_43 rfl (lv_at hl 3 rfl) ?_
        refine lv_if_ne (tgt := 71) hx hb dX11_weigh_44 (by decide) (fun c72 => ?_) (fun c72 => ?_)
        · have c73 : u3.toInt ≠ 0 := fun z_ => c72 (Int32.toInt_inj.mp z_)
          have i74 : iv u3 1 9 := iv_Nl c73 i61 (by decide)
          refine lv_aload_n hx hb dX11_weigh_71 rfl (lv_at hl 0 rfl) ?_
          refine lv_iload_n hx hb dX11_weigh_72 rfl (lv_at hl 1 rfl) ?_
          refine lv_iload_n hx hb dX11_weigh_73 rfl (lv_at hl 2 rfl) ?_
          obtain ⟨_, r77⟩ := t_rec tf1 hu0 (by decide) wf_60
          refine k_i (r_V C h hl (As := [.int u1, .int u2]) (rest := []) (s_X11_weightOfX l D G b0 τ f1 tf1 u0 hu0 u1 i17 u2 (iv_w i36 (by decide)) bq hbq k3 rb k6) r77 (Cn := RX11) (T := TX11) (N := 32) rfl rfl mk_X11_weightOf w_1631 w_1633 w_52 w_1634 ⟨Nat.le_of_ble_eq_true rfl, Nat.le_of_ble_eq_true rfl⟩ rfl (Nat.le_of_ble_eq_true rfl) ⟨Nat.le_of_ble_eq_true rfl, Nat.le_of_ble_eq_true rfl⟩ rfl dX11_weigh_74) h (fun r78 f79 H locs p80 h => ?_)
          obtain ⟨ir78, tf79, ogf79, x0r78, x1r78⟩ := p80
          have egf79 := Fr.nil2 ogf79
          subst egf79
          refine lv_istore (lv' := [(4, .int r78), (0, .ref u0), (1, .int u1), (2, .int u2), (3, .int u3)]) hx hb dX11_weigh_77 hl (by decide) rfl (fun ls hl => ?_)
          refine lv_iload hx hb dX11_weigh_79 (lv_at hl 0 rfl) ?_
          refine lv_iload_n hx hb dX11_weigh_81 rfl (lv_at hl 4 rfl) ?_
          refine lv_icmp_ne (tgt := 91) hx hb dX11_weigh_82 (by decide) (fun c81 => ?_) (fun c81 => ?_)
          · have c82 : r78.toInt ≠ u3.toInt := fun z_ => c81 (Int32.toInt_inj.mp z_)
            refine lv_aload_n hx hb dX11_weigh_91 rfl (lv_at hl 1 rfl) ?_
            obtain ⟨_, r85⟩ := t_rec tf1 hu0 (by decide) wf_60
            refine k_v (r_V C h hl (As := []) (rest := []) (s_X11_keepsX l D G b0 τ f1 tf1 u0 hu0 ac hac k2 bq hbq k3 kq hkq k4 rb k6 rk k7) r85 (Cn := RX11) (T := TX11) (N := 32) rfl rfl mk_X11_keeps w_1612 w_1614 w_50 w_1615 ⟨Nat.le_of_ble_eq_true rfl, Nat.le_of_ble_eq_true rfl⟩ rfl (Nat.le_of_ble_eq_true rfl) ⟨Nat.le_of_ble_eq_true rfl, Nat.le_of_ble_eq_true rfl⟩ rfl dX11_weigh_92) h (fun f87 H locs p88 h => ?_)
            obtain ⟨tf87, ogf87, ⟨ac1_f87, kpu0_10f87, ipu0_10f87, rpu0_10f87⟩, ⟨rk1_f87, kRkqf87, pRkqf87⟩⟩ := p88
            have of87 : Fr [60, 63, 65, 66, 60001, 60011] τ f f87 := Fr.tr of1 ogf87 (by decide) (by decide)
            have k89 := atp.fk k3 ogf87 hu0 (by decide) (by decide)
            have k90 := atp.fk k4 ogf87 hu0 (by decide) (by decide)
            have k91 := atp.fk k5 ogf87 hu0 (by decide) (by decide)
            have k92 := atp.fr k6 ogf87 hbq (by decide)
            have k93 := atp.fr k8 ogf87 hfq (by decide)
            refine lv_aload_n hx hb dX11_weigh_95 rfl (lv_at hl 1 rfl) ?_
            refine t_getfd C h tf87 hu0 (by decide) wf_60 (v := .ref bq) k89 fl_X11_17 dX11_weigh_96 ?_
            refine lv_bipush (v := 10) hx hb dX11_weigh_99 (by decide) ?_
            refine lv_iload_n hx hb dX11_weigh_101 rfl (lv_at hl 2 rfl) ?_
            refine i_cmul hx hb dX11_weigh_102 (k := 10) rfl i17 (lo := 0) (hi := 70) (by decide) (fun z94 ez94 mz94 iz94 => ?_)
            refine lv_iload_n hx hb dX11_weigh_103 rfl (lv_at hl 3 rfl) ?_
            refine i_add hx hb dX11_weigh_104 iz94 i36 (lo := 0) (hi := 77) (by decide) (fun z95 ez95 mz95 iz95 => ?_)
            refine lv_iload_n hx hb dX11_weigh_105 rfl (lv_at hl 4 rfl) ?_
            refine e_bkst C h tf87 of87 hbq (by decide) (by decide) wf_63 fw_63 k92 (Or.inl ⟨iv_w iz95 (by decide), (iv_w i74 (by decide))⟩) dX11_weigh_106 (fun R98 f96 erR98 H locs h tf96 of96 hq hn_ k97 => ?_)
            have k99 := atp.tg k89 hq hu0 (by decide)
            have k100 := atp.tg k90 hq hu0 (by decide)
            have k101 := atp.tg k91 hq hu0 (by decide)
            have k103 := atp.tg k93 hq hfq (by decide)
            have k104 := atp.tg kpu0_10f87 hq hu0 (by decide)
            have k105 := atp.tg kRkqf87 hq hkq (by decide)
            refine lv_iload hx hb dX11_weigh_107 (lv_at hl 0 rfl) ?_
            exact u_iret C h hr hQ (⟨(iv_w ir78 (by decide)), tf96, of96, ⟨fun _ => (by omega), fun z_ => (z_ (by omega)).elim⟩, ⟨ac1_f87, k104, (iv_w ipu0_10f87 (by decide)), ⟨fun _ => (by omega), fun z_ => (z_ (by omega)).elim⟩⟩, ⟨R98, k97, (fun k hk => by
                rw [if_pos (by omega)]
                rw [erR98]; unfold we; by_cases q_ : k = z95.toInt.toNat
                · rw [upd_at q_, if_pos (by omega)]
                · rw [upd_off q_, if_neg (by omega)])⟩, ⟨rk1_f87, k105, (fun k hk => by rw [if_pos (by omega)]; exact pRkqf87 k hk)⟩, ⟨rr, k103, (bump_no (by rw [if_neg (by omega), if_neg (by omega), if_neg (by omega)]))⟩⟩) (Nat.le_of_ble_eq_true rfl) (Nat.le_of_ble_eq_true rfl) dX11_weigh_109
          · have c83 : r78.toInt = u3.toInt := congrArg Int32.toInt c81
            have i84 : iv r78 1 9 := iv_Q c83 ir78 i74 (by decide)
            refine lv_aload_n hx hb dX11_weigh_85 rfl (lv_at hl 1 rfl) ?_
            refine lv_iconst (v := 3) hx hb dX11_weigh_86 (by decide) ?_
            obtain ⟨_, r106⟩ := t_rec tf1 hu0 (by decide) wf_60
            refine k_i (r_V C h hl (As := [.int 3]) (rest := []) (s_X11_refuseX l D G b0 τ f1 tf1 u0 hu0 3 (iv_w (iv_k (x := 3) (k := 3) rfl) (by decide)) fq hfq k5 rr k8) r106 (Cn := RX11) (T := TX11) (N := 32) rfl rfl mk_X11_refuse w_1604 w_1606 w_48 w_1607 ⟨Nat.le_of_ble_eq_true rfl, Nat.le_of_ble_eq_true rfl⟩ rfl (Nat.le_of_ble_eq_true rfl) ⟨Nat.le_of_ble_eq_true rfl, Nat.le_of_ble_eq_true rfl⟩ rfl dX11_weigh_87) h (fun r107 f108 H locs p109 h => ?_)
            obtain ⟨ir107, tf108, ogf108, ⟨rr1_f108, kRfqf108, pRfqf108⟩⟩ := p109
            have of108 : Fr [60, 63, 65, 66, 60001, 60011] τ f f108 := Fr.tr of1 ogf108 (by decide) (by decide)
            have k110 := atp.fr k2 ogf108 hu0 (by decide)
            have k111 := atp.fr k3 ogf108 hu0 (by decide)
            have k112 := atp.fr k4 ogf108 hu0 (by decide)
            have k113 := atp.fr k5 ogf108 hu0 (by decide)
            have k114 := atp.fr k6 ogf108 hbq (by decide)
            have k115 := atp.fr k7 ogf108 hkq (by decide)
            exact u_iret C h hr hQ (⟨(iv_w ir107 (by decide)), tf108, of108, ⟨fun z_ => absurd z_ (by omega), fun _ => (by omega)⟩, ⟨ac, k110, hac, ⟨fun z_ => absurd z_ (by omega), fun _ => rfl⟩⟩, ⟨rb, k114, (fun k hk => by rw [if_neg (by omega)])⟩, ⟨rk, k115, (fun k hk => by rw [if_neg (by omega)])⟩, ⟨rr1_f108, kRfqf108, (bump_eq (c := 3) pRfqf108 rfl (by decide) (by rw [if_neg (by omega), if_neg (by omega), if_pos (by omega)]))⟩⟩) (Nat.le_of_ble_eq_true rfl) (Nat.le_of_ble_eq_true rfl) dX11_weigh_90
        · have c75 : u3.toInt = 0 := congrArg Int32.toInt c72
          have i76 : iv u3 0 0 := iv_Q c75 i61 (iv_k (x := 0) (k := 0) rfl) (by decide)
          refine lv_aload_n hx hb dX11_weigh_47 rfl (lv_at hl 0 rfl) ?_
          refine lv_iload_n hx hb dX11_weigh_48 rfl (lv_at hl 1 rfl) ?_
          refine lv_iload_n hx hb dX11_weigh_49 rfl (lv_at hl 2 rfl) ?_
          obtain ⟨_, r116⟩ := t_rec tf1 hu0 (by decide) wf_60
          refine k_i (r_V C h hl (As := [.int u1, .int u2]) (rest := []) (s_X11_weightOfX l D G b0 τ f1 tf1 u0 hu0 u1 i17 u2 (iv_w i36 (by decide)) bq hbq k3 rb k6) r116 (Cn := RX11) (T := TX11) (N := 32) rfl rfl mk_X11_weightOf w_1631 w_1633 w_52 w_1634 ⟨Nat.le_of_ble_eq_true rfl, Nat.le_of_ble_eq_true rfl⟩ rfl (Nat.le_of_ble_eq_true rfl) ⟨Nat.le_of_ble_eq_true rfl, Nat.le_of_ble_eq_true rfl⟩ rfl dX11_weigh_50) h (fun r117 f118 H locs p119 h => ?_)
          obtain ⟨ir117, tf118, ogf118, x0r117, x1r117⟩ := p119
          have egf118 := Fr.nil2 ogf118
          subst egf118
          refine lv_if_le (tgt := 71) hx hb dX11_weigh_53 (by decide) (fun c120 => ?_) (fun c120 => ?_)
          · have c121 : r117.toInt ≤ 0 := Int32.le_iff_toInt_le.mp c120
            have i122 : iv r117 0 0 := iv_El c121 ir117 (iv_k (x := 0) (k := 0) rfl) (by decide)
            refine lv_aload_n hx hb dX11_weigh_71 rfl (lv_at hl 0 rfl) ?_
            refine lv_iload_n hx hb dX11_weigh_72 rfl (lv_at hl 1 rfl) ?_
            refine lv_iload_n hx hb dX11_weigh_73 rfl (lv_at hl 2 rfl) ?_
            obtain ⟨_, r125⟩ := t_rec tf1 hu0 (by decide) wf_60
            refine k_i (r_V C h hl (As := [.int u1, .int u2]) (rest := []) (s_X11_weightOfX l D G b0 τ f1 tf1 u0 hu0 u1 i17 u2 (iv_w i36 (by decide)) bq hbq k3 rb k6) r125 (Cn := RX11) (T := TX11) (N := 32) rfl rfl mk_X11_weightOf w_1631 w_1633 w_52 w_1634 ⟨Nat.le_of_ble_eq_true rfl, Nat.le_of_ble_eq_true rfl⟩ rfl (Nat.le_of_ble_eq_true rfl) ⟨Nat.le_of_ble_eq_true rfl, Nat.le_of_ble_eq_true rfl⟩ rfl dX11_weigh_74) h (fun r126 f127 H locs p128 h => ?_)
            obtain ⟨ir126, tf127, ogf127, x0r126, x1r126⟩ := p128
            have egf127 := Fr.nil2 ogf127
            subst egf127
            refine lv_istore (lv' := [(4, .int r126), (0, .ref u0), (1, .int u1), (2, .int u2), (3, .int u3)]) hx hb dX11_weigh_77 hl (by decide) rfl (fun ls hl => ?_)
            refine lv_iload hx hb dX11_weigh_79 (lv_at hl 0 rfl) ?_
            refine lv_iload_n hx hb dX11_weigh_81 rfl (lv_at hl 4 rfl) ?_
            refine lv_icmp_ne (tgt := 91) hx hb dX11_weigh_82 (by decide) (fun c129 => ?_) (fun c129 => ?_)
            · have c130 : r126.toInt ≠ u3.toInt := fun z_ => c129 (Int32.toInt_inj.mp z_)
              refine lv_aload_n hx hb dX11_weigh_91 rfl (lv_at hl 1 rfl) ?_
              obtain ⟨_, r133⟩ := t_rec tf1 hu0 (by decide) wf_60
              refine k_v (r_V C h hl (As := []) (rest := []) (s_X11_keepsX l D G b0 τ f1 tf1 u0 hu0 ac hac k2 bq hbq k3 kq hkq k4 rb k6 rk k7) r133 (Cn := RX11) (T := TX11) (N := 32) rfl rfl mk_X11_keeps w_1612 w_1614 w_50 w_1615 ⟨Nat.le_of_ble_eq_true rfl, Nat.le_of_ble_eq_true rfl⟩ rfl (Nat.le_of_ble_eq_true rfl) ⟨Nat.le_of_ble_eq_true rfl, Nat.le_of_ble_eq_true rfl⟩ rfl dX11_weigh_92) h (fun f135 H locs p136 h => ?_)
              obtain ⟨tf135, ogf135, ⟨ac1_f135, kpu0_10f135, ipu0_10f135, rpu0_10f135⟩, ⟨rk1_f135, kRkqf135, pRkqf135⟩⟩ := p136
              have of135 : Fr [60, 63, 65, 66, 60001, 60011] τ f f135 := Fr.tr of1 ogf135 (by decide) (by decide)
              have k137 := atp.fk k3 ogf135 hu0 (by decide) (by decide)
              have k138 := atp.fk k4 ogf135 hu0 (by decide) (by decide)
              have k139 := atp.fk k5 ogf135 hu0 (by decide) (by decide)
              have k140 := atp.fr k6 ogf135 hbq (by decide)
              have k141 := atp.fr k8 ogf135 hfq (by decide)
              refine lv_aload_n hx hb dX11_weigh_95 rfl (lv_at hl 1 rfl) ?_
              refine t_getfd C h tf135 hu0 (by decide) wf_60 (v := .ref bq) k137 fl_X11_17 dX11_weigh_96 ?_
              refine lv_bipush (v := 10) hx hb dX11_weigh_99 (by decide) ?_
              refine lv_iload_n hx hb dX11_weigh_101 rfl (lv_at hl 2 rfl) ?_
              refine i_cmul hx hb dX11_weigh_102 (k := 10) rfl i17 (lo := 0) (hi := 70) (by decide) (fun z142 ez142 mz142 iz142 => ?_)
              refine lv_iload_n hx hb dX11_weigh_103 rfl (lv_at hl 3 rfl) ?_
              refine i_add hx hb dX11_weigh_104 iz142 i36 (lo := 0) (hi := 77) (by decide) (fun z143 ez143 mz143 iz143 => ?_)
              refine lv_iload_n hx hb dX11_weigh_105 rfl (lv_at hl 4 rfl) ?_
              refine e_bkst C h tf135 of135 hbq (by decide) (by decide) wf_63 fw_63 k140 (Or.inl ⟨iv_w iz143 (by decide), (iv_w i76 (by decide))⟩) dX11_weigh_106 (fun R146 f144 erR146 H locs h tf144 of144 hq hn_ k145 => ?_)
              have k147 := atp.tg k137 hq hu0 (by decide)
              have k148 := atp.tg k138 hq hu0 (by decide)
              have k149 := atp.tg k139 hq hu0 (by decide)
              have k151 := atp.tg k141 hq hfq (by decide)
              have k152 := atp.tg kpu0_10f135 hq hu0 (by decide)
              have k153 := atp.tg kRkqf135 hq hkq (by decide)
              refine lv_iload hx hb dX11_weigh_107 (lv_at hl 0 rfl) ?_
              exact u_iret C h hr hQ (⟨(iv_w ir126 (by decide)), tf144, of144, ⟨fun _ => (by omega), fun z_ => (z_ (by omega)).elim⟩, ⟨ac1_f135, k152, (iv_w ipu0_10f135 (by decide)), ⟨fun _ => (by omega), fun z_ => (z_ (by omega)).elim⟩⟩, ⟨R146, k145, (fun k hk => by
                  rw [if_pos (by omega)]
                  rw [erR146]; unfold we; by_cases q_ : k = z143.toInt.toNat
                  · rw [upd_at q_, if_pos (by omega)]
                  · rw [upd_off q_, if_neg (by omega)])⟩, ⟨rk1_f135, k153, (fun k hk => by rw [if_pos (by omega)]; exact pRkqf135 k hk)⟩, ⟨rr, k151, (bump_no (by rw [if_neg (by omega), if_neg (by omega), if_neg (by omega)]))⟩⟩) (Nat.le_of_ble_eq_true rfl) (Nat.le_of_ble_eq_true rfl) dX11_weigh_109
            · have c131 : r126.toInt = u3.toInt := congrArg Int32.toInt c129
              have i132 : iv r126 0 0 := iv_Q c131 ir126 i76 (by decide)
              refine lv_aload_n hx hb dX11_weigh_85 rfl (lv_at hl 1 rfl) ?_
              refine lv_iconst (v := 3) hx hb dX11_weigh_86 (by decide) ?_
              obtain ⟨_, r154⟩ := t_rec tf1 hu0 (by decide) wf_60
              refine k_i (r_V C h hl (As := [.int 3]) (rest := []) (s_X11_refuseX l D G b0 τ f1 tf1 u0 hu0 3 (iv_w (iv_k (x := 3) (k := 3) rfl) (by decide)) fq hfq k5 rr k8) r154 (Cn := RX11) (T := TX11) (N := 32) rfl rfl mk_X11_refuse w_1604 w_1606 w_48 w_1607 ⟨Nat.le_of_ble_eq_true rfl, Nat.le_of_ble_eq_true rfl⟩ rfl (Nat.le_of_ble_eq_true rfl) ⟨Nat.le_of_ble_eq_true rfl, Nat.le_of_ble_eq_true rfl⟩ rfl dX11_weigh_87) h (fun r155 f156 H locs p157 h => ?_)
              obtain ⟨ir155, tf156, ogf156, ⟨rr1_f156, kRfqf156, pRfqf156⟩⟩ := p157
              have of156 : Fr [60, 63, 65, 66, 60001, 60011] τ f f156 := Fr.tr of1 ogf156 (by decide) (by decide)
              have k158 := atp.fr k2 ogf156 hu0 (by decide)
              have k159 := atp.fr k3 ogf156 hu0 (by decide)
              have k160 := atp.fr k4 ogf156 hu0 (by decide)
              have k161 := atp.fr k5 ogf156 hu0 (by decide)
              have k162 := atp.fr k6 ogf156 hbq (by decide)
              have k163 := atp.fr k7 ogf156 hkq (by decide)
              exact u_iret C h hr hQ (⟨(iv_w ir155 (by decide)), tf156, of156, ⟨fun z_ => absurd z_ (by omega), fun _ => (by omega)⟩, ⟨ac, k158, hac, ⟨fun z_ => absurd z_ (by omega), fun _ => rfl⟩⟩, ⟨rb, k162, (fun k hk => by rw [if_neg (by omega)])⟩, ⟨rk, k163, (fun k hk => by rw [if_neg (by omega)])⟩, ⟨rr1_f156, kRfqf156, (bump_eq (c := 3) pRfqf156 rfl (by decide) (by rw [if_neg (by omega), if_neg (by omega), if_pos (by omega)]))⟩⟩) (Nat.le_of_ble_eq_true rfl) (Nat.le_of_ble_eq_true rfl) dX11_weigh_90
          · have c123 : 0 < r117.toInt := Int32.lt_iff_toInt_lt.mp (iv_nle c120)
            have i124 : iv r117 1 9 := iv_Lr c123 (iv_k (x := 0) (k := 0) rfl) ir117 (by decide)
            refine lv_aload_n hx hb dX11_weigh_56 rfl (lv_at hl 0 rfl) ?_
            refine lv_iload_n hx hb dX11_weigh_57 rfl (lv_at hl 1 rfl) ?_
            obtain ⟨_, r164⟩ := t_rec tf1 hu0 (by decide) wf_60
            refine k_i (r_V C h hl (As := [.int u1]) (rest := []) (s_X11_stepsOfX l D G b0 τ f1 tf1 u0 hu0 u1 i17 bq hbq k3 rb k6) r164 (Cn := RX11) (T := TX11) (N := 32) rfl rfl mk_X11_stepsOf w_1658 w_1660 w_54 w_1661 ⟨Nat.le_of_ble_eq_true rfl, Nat.le_of_ble_eq_true rfl⟩ rfl (Nat.le_of_ble_eq_true rfl) ⟨Nat.le_of_ble_eq_true rfl, Nat.le_of_ble_eq_true rfl⟩ rfl dX11_weigh_58) h (fun r165 f166 H locs p167 h => ?_)
            obtain ⟨ir165, tf166, ogf166, x0r165⟩ := p167
            have egf166 := Fr.nil2 ogf166
            subst egf166
            refine lv_iconst (v := 1) hx hb dX11_weigh_61 (by decide) ?_
            refine lv_icmp_ne (tgt := 71) hx hb dX11_weigh_62 (by decide) (fun c168 => ?_) (fun c168 => ?_)
            · have c169 : r165.toInt ≠ 1 := fun z_ => c168 (Int32.toInt_inj.mp z_)
              refine lv_aload_n hx hb dX11_weigh_71 rfl (lv_at hl 0 rfl) ?_
              refine lv_iload_n hx hb dX11_weigh_72 rfl (lv_at hl 1 rfl) ?_
              refine lv_iload_n hx hb dX11_weigh_73 rfl (lv_at hl 2 rfl) ?_
              obtain ⟨_, r172⟩ := t_rec tf1 hu0 (by decide) wf_60
              refine k_i (r_V C h hl (As := [.int u1, .int u2]) (rest := []) (s_X11_weightOfX l D G b0 τ f1 tf1 u0 hu0 u1 i17 u2 (iv_w i36 (by decide)) bq hbq k3 rb k6) r172 (Cn := RX11) (T := TX11) (N := 32) rfl rfl mk_X11_weightOf w_1631 w_1633 w_52 w_1634 ⟨Nat.le_of_ble_eq_true rfl, Nat.le_of_ble_eq_true rfl⟩ rfl (Nat.le_of_ble_eq_true rfl) ⟨Nat.le_of_ble_eq_true rfl, Nat.le_of_ble_eq_true rfl⟩ rfl dX11_weigh_74) h (fun r173 f174 H locs p175 h => ?_)
              obtain ⟨ir173, tf174, ogf174, x0r173, x1r173⟩ := p175
              have egf174 := Fr.nil2 ogf174
              subst egf174
              refine lv_istore (lv' := [(4, .int r173), (0, .ref u0), (1, .int u1), (2, .int u2), (3, .int u3)]) hx hb dX11_weigh_77 hl (by decide) rfl (fun ls hl => ?_)
              refine lv_iload hx hb dX11_weigh_79 (lv_at hl 0 rfl) ?_
              refine lv_iload_n hx hb dX11_weigh_81 rfl (lv_at hl 4 rfl) ?_
              refine lv_icmp_ne (tgt := 91) hx hb dX11_weigh_82 (by decide) (fun c176 => ?_) (fun c176 => ?_)
              · have c177 : r173.toInt ≠ u3.toInt := fun z_ => c176 (Int32.toInt_inj.mp z_)
                refine lv_aload_n hx hb dX11_weigh_91 rfl (lv_at hl 1 rfl) ?_
                obtain ⟨_, r180⟩ := t_rec tf1 hu0 (by decide) wf_60
                refine k_v (r_V C h hl (As := []) (rest := []) (s_X11_keepsX l D G b0 τ f1 tf1 u0 hu0 ac hac k2 bq hbq k3 kq hkq k4 rb k6 rk k7) r180 (Cn := RX11) (T := TX11) (N := 32) rfl rfl mk_X11_keeps w_1612 w_1614 w_50 w_1615 ⟨Nat.le_of_ble_eq_true rfl, Nat.le_of_ble_eq_true rfl⟩ rfl (Nat.le_of_ble_eq_true rfl) ⟨Nat.le_of_ble_eq_true rfl, Nat.le_of_ble_eq_true rfl⟩ rfl dX11_weigh_92) h (fun f182 H locs p183 h => ?_)
                obtain ⟨tf182, ogf182, ⟨ac1_f182, kpu0_10f182, ipu0_10f182, rpu0_10f182⟩, ⟨rk1_f182, kRkqf182, pRkqf182⟩⟩ := p183
                have of182 : Fr [60, 63, 65, 66, 60001, 60011] τ f f182 := Fr.tr of1 ogf182 (by decide) (by decide)
                have k184 := atp.fk k3 ogf182 hu0 (by decide) (by decide)
                have k185 := atp.fk k4 ogf182 hu0 (by decide) (by decide)
                have k186 := atp.fk k5 ogf182 hu0 (by decide) (by decide)
                have k187 := atp.fr k6 ogf182 hbq (by decide)
                have k188 := atp.fr k8 ogf182 hfq (by decide)
                refine lv_aload_n hx hb dX11_weigh_95 rfl (lv_at hl 1 rfl) ?_
                refine t_getfd C h tf182 hu0 (by decide) wf_60 (v := .ref bq) k184 fl_X11_17 dX11_weigh_96 ?_
                refine lv_bipush (v := 10) hx hb dX11_weigh_99 (by decide) ?_
                refine lv_iload_n hx hb dX11_weigh_101 rfl (lv_at hl 2 rfl) ?_
                refine i_cmul hx hb dX11_weigh_102 (k := 10) rfl i17 (lo := 0) (hi := 70) (by decide) (fun z189 ez189 mz189 iz189 => ?_)
                refine lv_iload_n hx hb dX11_weigh_103 rfl (lv_at hl 3 rfl) ?_
                refine i_add hx hb dX11_weigh_104 iz189 i36 (lo := 0) (hi := 77) (by decide) (fun z190 ez190 mz190 iz190 => ?_)
                refine lv_iload_n hx hb dX11_weigh_105 rfl (lv_at hl 4 rfl) ?_
                refine e_bkst C h tf182 of182 hbq (by decide) (by decide) wf_63 fw_63 k187 (Or.inl ⟨iv_w iz190 (by decide), (iv_w i76 (by decide))⟩) dX11_weigh_106 (fun R193 f191 erR193 H locs h tf191 of191 hq hn_ k192 => ?_)
                have k194 := atp.tg k184 hq hu0 (by decide)
                have k195 := atp.tg k185 hq hu0 (by decide)
                have k196 := atp.tg k186 hq hu0 (by decide)
                have k198 := atp.tg k188 hq hfq (by decide)
                have k199 := atp.tg kpu0_10f182 hq hu0 (by decide)
                have k200 := atp.tg kRkqf182 hq hkq (by decide)
                refine lv_iload hx hb dX11_weigh_107 (lv_at hl 0 rfl) ?_
                exact u_iret C h hr hQ (⟨(iv_w ir173 (by decide)), tf191, of191, ⟨fun _ => (by omega), fun z_ => (z_ (by omega)).elim⟩, ⟨ac1_f182, k199, (iv_w ipu0_10f182 (by decide)), ⟨fun _ => (by omega), fun z_ => (z_ (by omega)).elim⟩⟩, ⟨R193, k192, (fun k hk => by
                    rw [if_pos (by omega)]
                    rw [erR193]; unfold we; by_cases q_ : k = z190.toInt.toNat
                    · rw [upd_at q_, if_pos (by omega)]
                    · rw [upd_off q_, if_neg (by omega)])⟩, ⟨rk1_f182, k200, (fun k hk => by rw [if_pos (by omega)]; exact pRkqf182 k hk)⟩, ⟨rr, k198, (bump_no (by rw [if_neg (by omega), if_neg (by omega), if_neg (by omega)]))⟩⟩) (Nat.le_of_ble_eq_true rfl) (Nat.le_of_ble_eq_true rfl) dX11_weigh_109
              · have c178 : r173.toInt = u3.toInt := congrArg Int32.toInt c176
                have i179 : iv r173 0 0 := iv_Q c178 ir173 i76 (by decide)
                refine lv_aload_n hx hb dX11_weigh_85 rfl (lv_at hl 1 rfl) ?_
                refine lv_iconst (v := 3) hx hb dX11_weigh_86 (by decide) ?_
                obtain ⟨_, r201⟩ := t_rec tf1 hu0 (by decide) wf_60
                refine k_i (r_V C h hl (As := [.int 3]) (rest := []) (s_X11_refuseX l D G b0 τ f1 tf1 u0 hu0 3 (iv_w (iv_k (x := 3) (k := 3) rfl) (by decide)) fq hfq k5 rr k8) r201 (Cn := RX11) (T := TX11) (N := 32) rfl rfl mk_X11_refuse w_1604 w_1606 w_48 w_1607 ⟨Nat.le_of_ble_eq_true rfl, Nat.le_of_ble_eq_true rfl⟩ rfl (Nat.le_of_ble_eq_true rfl) ⟨Nat.le_of_ble_eq_true rfl, Nat.le_of_ble_eq_true rfl⟩ rfl dX11_weigh_87) h (fun r202 f203 H locs p204 h => ?_)
                obtain ⟨ir202, tf203, ogf203, ⟨rr1_f203, kRfqf203, pRfqf203⟩⟩ := p204
                have of203 : Fr [60, 63, 65, 66, 60001, 60011] τ f f203 := Fr.tr of1 ogf203 (by decide) (by decide)
                have k205 := atp.fr k2 ogf203 hu0 (by decide)
                have k206 := atp.fr k3 ogf203 hu0 (by decide)
                have k207 := atp.fr k4 ogf203 hu0 (by decide)
                have k208 := atp.fr k5 ogf203 hu0 (by decide)
                have k209 := atp.fr k6 ogf203 hbq (by decide)
                have k210 := atp.fr k7 ogf203 hkq (by decide)
                exact u_iret C h hr hQ (⟨(iv_w ir202 (by decide)), tf203, of203, ⟨fun z_ => absurd z_ (by omega), fun _ => (by omega)⟩, ⟨ac, k205, hac, ⟨fun z_ => absurd z_ (by omega), fun _ => rfl⟩⟩, ⟨rb, k209, (fun k hk => by rw [if_neg (by omega)])⟩, ⟨rk, k210, (fun k hk => by rw [if_neg (by omega)])⟩, ⟨rr1_f203, kRfqf203, (bump_eq (c := 3) pRfqf203 rfl (by decide) (by rw [if_neg (by omega), if_neg (by omega), if_pos (by omega)]))⟩⟩) (Nat.le_of_ble_eq_true rfl) (Nat.le_of_ble_eq_true rfl) dX11_weigh_90
            · have c170 : r165.toInt = 1 := congrArg Int32.toInt c168
              have i171 : iv r165 1 1 := iv_Q c170 ir165 (iv_k (x := 1) (k := 1) rfl) (by decide)
              refine lv_aload_n hx hb dX11_weigh_65 rfl (lv_at hl 0 rfl) ?_
              refine lv_iconst (v := 1) hx hb dX11_weigh_66 (by decide) ?_
              obtain ⟨_, r211⟩ := t_rec tf1 hu0 (by decide) wf_60
              refine k_i (r_V C h hl (As := [.int 1]) (rest := []) (s_X11_refuseX l D G b0 τ f1 tf1 u0 hu0 1 (iv_w (iv_k (x := 1) (k := 1) rfl) (by decide)) fq hfq k5 rr k8) r211 (Cn := RX11) (T := TX11) (N := 32) rfl rfl mk_X11_refuse w_1604 w_1606 w_48 w_1607 ⟨Nat.le_of_ble_eq_true rfl, Nat.le_of_ble_eq_true rfl⟩ rfl (Nat.le_of_ble_eq_true rfl) ⟨Nat.le_of_ble_eq_true rfl, Nat.le_of_ble_eq_true rfl⟩ rfl dX11_weigh_67) h (fun r212 f213 H locs p214 h => ?_)
              obtain ⟨ir212, tf213, ogf213, ⟨rr1_f213, kRfqf213, pRfqf213⟩⟩ := p214
              have of213 : Fr [60, 63, 65, 66, 60001, 60011] τ f f213 := Fr.tr of1 ogf213 (by decide) (by decide)
              have k215 := atp.fr k2 ogf213 hu0 (by decide)
              have k216 := atp.fr k3 ogf213 hu0 (by decide)
              have k217 := atp.fr k4 ogf213 hu0 (by decide)
              have k218 := atp.fr k5 ogf213 hu0 (by decide)
              have k219 := atp.fr k6 ogf213 hbq (by decide)
              have k220 := atp.fr k7 ogf213 hkq (by decide)
              exact u_iret C h hr hQ (⟨(iv_w ir212 (by decide)), tf213, of213, ⟨fun z_ => absurd z_ (by omega), fun _ => (by omega)⟩, ⟨ac, k215, hac, ⟨fun z_ => absurd z_ (by omega), fun _ => rfl⟩⟩, ⟨rb, k219, (fun k hk => by rw [if_neg (by omega)])⟩, ⟨rk, k220, (fun k hk => by rw [if_neg (by omega)])⟩, ⟨rr1_f213, kRfqf213, (bump_eq (c := 1) pRfqf213 rfl (by decide) (by rw [if_neg (by omega), if_pos (by omega)]))⟩⟩) (Nat.le_of_ble_eq_true rfl) (Nat.le_of_ble_eq_true rfl) dX11_weigh_70
  · have c19 : r11.toInt = 0 := congrArg Int32.toInt c14
    have i20 : iv r11 0 0 := iv_Q c19 ir11 (iv_k (x := 0) (k := 0) rfl) (by decide)
    have i21 := czr11 c19
    refine lv_aload_n hx hb dX11_weigh_13 rfl (lv_at hl 0 rfl) ?_
    refine lv_iconst (v := 0) hx hb dX11_weigh_14 (by decide) ?_
    obtain ⟨_, r221⟩ := t_rec tf1 hu0 (by decide) wf_60
    refine k_i (r_V C h hl (As := [.int 0]) (rest := []) (s_X11_refuseX l D G b0 τ f1 tf1 u0 hu0 0 (iv_w (iv_k (x := 0) (k := 0) rfl) (by decide)) fq hfq k5 rr k8) r221 (Cn := RX11) (T := TX11) (N := 32) rfl rfl mk_X11_refuse w_1604 w_1606 w_48 w_1607 ⟨Nat.le_of_ble_eq_true rfl, Nat.le_of_ble_eq_true rfl⟩ rfl (Nat.le_of_ble_eq_true rfl) ⟨Nat.le_of_ble_eq_true rfl, Nat.le_of_ble_eq_true rfl⟩ rfl dX11_weigh_15) h (fun r222 f223 H locs p224 h => ?_)
    obtain ⟨ir222, tf223, ogf223, ⟨rr1_f223, kRfqf223, pRfqf223⟩⟩ := p224
    have of223 : Fr [60, 63, 65, 66, 60001, 60011] τ f f223 := Fr.tr of1 ogf223 (by decide) (by decide)
    have k225 := atp.fr k2 ogf223 hu0 (by decide)
    have k226 := atp.fr k3 ogf223 hu0 (by decide)
    have k227 := atp.fr k4 ogf223 hu0 (by decide)
    have k228 := atp.fr k5 ogf223 hu0 (by decide)
    have k229 := atp.fr k6 ogf223 hbq (by decide)
    have k230 := atp.fr k7 ogf223 hkq (by decide)
    exact u_iret C h hr hQ (⟨(iv_w ir222 (by decide)), tf223, of223, ⟨fun z_ => absurd z_ (by omega), fun _ => (by omega)⟩, ⟨ac, k225, hac, ⟨fun z_ => absurd z_ (by omega), fun _ => rfl⟩⟩, ⟨rb, k229, (fun k hk => by rw [if_neg (by omega)])⟩, ⟨rk, k230, (fun k hk => by rw [if_neg (by omega)])⟩, ⟨rr1_f223, kRfqf223, (bump_eq (c := 0) pRfqf223 rfl (by decide) (by rw [if_pos (by omega)]))⟩⟩) (Nat.le_of_ble_eq_true rfl) (Nat.le_of_ble_eq_true rfl) dX11_weigh_18
abbrev rm_s_X11_startX : Room := { frames := 2, cells := 0, slots := 0, locals := 46 }
set_option maxRecDepth 100000 in
set_option maxHeartbeats 4000000 in
theorem s_X11_startX (l : Launch) (D : va_G) (G : Nat → Nat) (b0 : Nat) (τ : Nat → Nat) (f : hM) (t : TI G 9 τ f) (u0 : Nat) (hu0 : τ u0 = 60) (u1 : Int32) (hu1 : iv u1 (-2147483648) 2147483647) (u2 : Int32) (hu2 : iv u2 (-2147483648) 2147483647) (u3 : Int32) (hu3 : iv u3 (-2147483648) 2147483647) (ac : Int32) (hac : iv ac 0 12) (k_u0_10 : atp f u0 (fd 10 (.int ac))) (bq : Nat) (hbq : τ bq = 63) (k_u0_6 : atp f u0 (fd 6 (.ref bq))) (kq : Nat) (hkq : τ kq = 65) (k_u0_8 : atp f u0 (fd 8 (.ref kq))) (fq : Nat) (hfq : τ fq = 66) (k_u0_9 : atp f u0 (fd 9 (.ref fq))) (rb : Nat → Int32) (hRbq : atp f bq (eqc (.inl (G 1, 81, .inl rb)))) (rk : Nat → Int32) (hRkq : atp f kq (eqc (.inl (G 1, 972, .inl rk)))) (rr : Nat → Int32) (hRfq : atp f fq (eqc (.inl (G 1, 4, .inl rr)))) : mI l yX11_start cX11_start 5 (.int) rm_s_X11_startX D G b0 f [.ref u0, .int u1, .int u2, .int u3] (fun r f1 => iv r (-1) 99 ∧ TI G 9 τ f1 ∧ Fr [60, 63, 65, 66, 60001, 60011] τ f f1 ∧ (((((0 ≤ u1.toInt ∧ u1.toInt < (rb 80).toInt) ∧ (0 ≤ u2.toInt ∧ u2.toInt ≤ 9) ∧ (0 ≤ u3.toInt ∧ u3.toInt ≤ 9) ∧ ¬ ((rb (10 * u1.toInt + 8).toNat).toInt = u2.toInt ∧ (rb (10 * u1.toInt + 9).toNat).toInt = u3.toInt))) → r.toInt = 10 * (rb (10 * u1.toInt + 8).toNat).toInt + (rb (10 * u1.toInt + 9).toNat).toInt) ∧ (¬ (((0 ≤ u1.toInt ∧ u1.toInt < (rb 80).toInt) ∧ (0 ≤ u2.toInt ∧ u2.toInt ≤ 9) ∧ (0 ≤ u3.toInt ∧ u3.toInt ≤ 9) ∧ ¬ ((rb (10 * u1.toInt + 8).toNat).toInt = u2.toInt ∧ (rb (10 * u1.toInt + 9).toNat).toInt = u3.toInt))) → r.toInt = -1)) ∧ (∃ ac1 : Int32, atp f1 u0 (fd 10 (.int ac1)) ∧ iv ac1 0 12 ∧ ((((0 ≤ u1.toInt ∧ u1.toInt < (rb 80).toInt) ∧ (0 ≤ u2.toInt ∧ u2.toInt ≤ 9) ∧ (0 ≤ u3.toInt ∧ u3.toInt ≤ 9) ∧ ¬ ((rb (10 * u1.toInt + 8).toNat).toInt = u2.toInt ∧ (rb (10 * u1.toInt + 9).toNat).toInt = u3.toInt))) → ((ac.toInt = 12 → ac1.toInt = 12) ∧ (ac.toInt ≠ 12 → ac1.toInt = ac.toInt + 1))) ∧ (¬ (((0 ≤ u1.toInt ∧ u1.toInt < (rb 80).toInt) ∧ (0 ≤ u2.toInt ∧ u2.toInt ≤ 9) ∧ (0 ≤ u3.toInt ∧ u3.toInt ≤ 9) ∧ ¬ ((rb (10 * u1.toInt + 8).toNat).toInt = u2.toInt ∧ (rb (10 * u1.toInt + 9).toNat).toInt = u3.toInt))) → ac1.toInt = ac.toInt)) ∧ (∃ rb1 : Nat → Int32, atp f1 bq (eqc (.inl (G 1, 81, .inl rb1))) ∧ (∀ k : Nat, k < 81 → rb1 k = if ((0 ≤ u1.toInt ∧ u1.toInt < (rb 80).toInt) ∧ (0 ≤ u2.toInt ∧ u2.toInt ≤ 9) ∧ (0 ≤ u3.toInt ∧ u3.toInt ≤ 9) ∧ ¬ ((rb (10 * u1.toInt + 8).toNat).toInt = u2.toInt ∧ (rb (10 * u1.toInt + 9).toNat).toInt = u3.toInt)) then so rb u1.toInt u2 u3 k else rb k)) ∧ (∃ rk1 : Nat → Int32, atp f1 kq (eqc (.inl (G 1, 972, .inl rk1))) ∧ (∀ k : Nat, k < 972 → rk1 k = if ((0 ≤ u1.toInt ∧ u1.toInt < (rb 80).toInt) ∧ (0 ≤ u2.toInt ∧ u2.toInt ≤ 9) ∧ (0 ≤ u3.toInt ∧ u3.toInt ≤ 9) ∧ ¬ ((rb (10 * u1.toInt + 8).toNat).toInt = u2.toInt ∧ (rb (10 * u1.toInt + 9).toNat).toInt = u3.toInt)) then kp rk rb ac.toInt k else rk k)) ∧ (∃ rr1 : Nat → Int32, atp f1 fq (eqc (.inl (G 1, 4, .inl rr1))) ∧ (∀ k : Nat, k < 4 → rr1 k = if (k : Int) = (if ¬ (0 ≤ u1.toInt ∧ u1.toInt < (rb 80).toInt) then 0 else (if ¬ (0 ≤ u2.toInt ∧ u2.toInt ≤ 9) ∨ ¬ (0 ≤ u3.toInt ∧ u3.toInt ≤ 9) then 1 else (if (rb (10 * u1.toInt + 8).toNat).toInt = u2.toInt ∧ (rb (10 * u1.toInt + 9).toNat).toInt = u3.toInt then 3 else -1))) then rr k + 1 else rr k))) := by
  refine met2 (own := RX11) (by decide) rfl (Nat.le_of_ble_eq_true rfl) ?_
  intro p e s m args below meth c ls Q hQ C hr hini hl h
  have hl : lv_has ls 5 [(0, .ref u0), (1, .int u1), (2, .int u2), (3, .int u3)] := hl
  obtain ⟨hx, hb, hml, hown, hts, hE0, hlk⟩ := id C
  have o := Fr.rf [60, 63, 65, 66, 60001, 60011] τ f
  refine lv_aload_n hx hb dX11_start_0 rfl (lv_at hl 0 rfl) ?_
  refine lv_iconst (v := 0) hx hb dX11_start_1 (by decide) ?_
  refine t_put C h t o hu0 (by decide) (by decide) (by decide) wf_60 fw_60 (k := 0) rfl flw_X11_75 (Or.inr ⟨_, _, _, rfl, rfl⟩) (v := .int 0) rfl rfl ⟨_, rfl, ⟨by decide, by decide⟩⟩ dX11_start_2 (fun f1 H locs h tf1 of1 hq ha_ hn_ hk_ => ?_)
  have k2 := hk_ 10 _ (by decide) k_u0_10
  have k3 := hk_ 6 _ (by decide) k_u0_6
  have k4 := hk_ 8 _ (by decide) k_u0_8
  have k5 := hk_ 9 _ (by decide) k_u0_9
  have k6 := atp.tg hRbq hq hbq (by decide)
  have k7 := atp.tg hRkq hq hkq (by decide)
  have k8 := atp.tg hRfq hq hfq (by decide)
  have k9 := ha_
  refine lv_aload_n hx hb dX11_start_5 rfl (lv_at hl 0 rfl) ?_
  refine lv_iload_n hx hb dX11_start_6 rfl (lv_at hl 1 rfl) ?_
  obtain ⟨_, r10⟩ := t_rec tf1 hu0 (by decide) wf_60
  refine k_i (r_V C h hl (As := [.int u1]) (rest := []) (s_X11_isSetX l D G b0 τ f1 tf1 u0 hu0 u1 hu1 bq hbq k3 rb k6) r10 (Cn := RX11) (T := TX11) (N := 32) rfl rfl mk_X11_isSet w_1620 w_1622 w_51 w_1623 ⟨Nat.le_of_ble_eq_true rfl, Nat.le_of_ble_eq_true rfl⟩ rfl (Nat.le_of_ble_eq_true rfl) ⟨Nat.le_of_ble_eq_true rfl, Nat.le_of_ble_eq_true rfl⟩ rfl dX11_start_7) h (fun r11 f12 H locs p13 h => ?_)
  obtain ⟨ir11, tf12, ogf12, cnr11, czr11⟩ := p13
  have egf12 := Fr.nil2 ogf12
  subst egf12
  refine lv_if_ne (tgt := 19) hx hb dX11_start_10 (by decide) (fun c14 => ?_) (fun c14 => ?_)
  · have c15 : r11.toInt ≠ 0 := fun z_ => c14 (Int32.toInt_inj.mp z_)
    have i16 : iv r11 1 1 := iv_Nl c15 ir11 (by decide)
    obtain ⟨i17, i18⟩ := cnr11 c15
    refine lv_iload_n hx hb dX11_start_19 rfl (lv_at hl 2 rfl) ?_
    refine lv_i2l hx hb dX11_start_20 rfl (i_topL hu2 (fun w22 ew22 mw22 iw22 => ?_))
    refine lv_lconst (v := 0) hx hb dX11_start_21 (by decide) ?_
    refine lv_ldc2 (v := 9) hx hb hown (hts _ w_1648) dX11_start_22 ?_
    refine k_i (r_S C h hl (As := [.long w22, .long 0, .long 9]) (rest := []) (s_X11_isInX l D G b0 τ f1 tf1 w22 0 9) mk_X11_isIn w_1624 w_1625 w_1626 ⟨Nat.le_of_ble_eq_true rfl, Nat.le_of_ble_eq_true rfl⟩ rfl (Nat.le_of_ble_eq_true rfl) ⟨Nat.le_of_ble_eq_true rfl, Nat.le_of_ble_eq_true rfl⟩ rfl dX11_start_25) h (fun r23 f24 H locs p25 h => ?_)
    have n26 : (0 : Int64).toInt = 0 := rfl
    have n27 : (9 : Int64).toInt = 9 := rfl
    obtain ⟨ir23, tf24, ogf24, cnr23, czr23⟩ := p25
    have egf24 := Fr.nil2 ogf24
    subst egf24
    refine lv_if_eq (tgt := 43) hx hb dX11_start_28 (by decide) (fun c28 => ?_) (fun c28 => ?_)
    · have c29 : r23.toInt = 0 := congrArg Int32.toInt c28
      have i30 : iv r23 0 0 := iv_Q c29 ir23 (iv_k (x := 0) (k := 0) rfl) (by decide)
      have i31 := czr23 c29
      refine lv_aload_n hx hb dX11_start_43 rfl (lv_at hl 0 rfl) ?_
      refine lv_iconst (v := 1) hx hb dX11_start_44 (by decide) ?_
      obtain ⟨_, r37⟩ := t_rec tf1 hu0 (by decide) wf_60
      refine k_i (r_V C h hl (As := [.int 1]) (rest := []) (s_X11_refuseX l D G b0 τ f1 tf1 u0 hu0 1 (iv_w (iv_k (x := 1) (k := 1) rfl) (by decide)) fq hfq k5 rr k8) r37 (Cn := RX11) (T := TX11) (N := 32) rfl rfl mk_X11_refuse w_1604 w_1606 w_48 w_1607 ⟨Nat.le_of_ble_eq_true rfl, Nat.le_of_ble_eq_true rfl⟩ rfl (Nat.le_of_ble_eq_true rfl) ⟨Nat.le_of_ble_eq_true rfl, Nat.le_of_ble_eq_true rfl⟩ rfl dX11_start_45) h (fun r38 f39 H locs p40 h => ?_)
      obtain ⟨ir38, tf39, ogf39, ⟨rr1_f39, kRfqf39, pRfqf39⟩⟩ := p40
      have of39 : Fr [60, 63, 65, 66, 60001, 60011] τ f f39 := Fr.tr of1 ogf39 (by decide) (by decide)
      have k41 := atp.fr k2 ogf39 hu0 (by decide)
      have k42 := atp.fr k3 ogf39 hu0 (by decide)
      have k43 := atp.fr k4 ogf39 hu0 (by decide)
      have k44 := atp.fr k5 ogf39 hu0 (by decide)
      have k45 := atp.fr k6 ogf39 hbq (by decide)
      have k46 := atp.fr k7 ogf39 hkq (by decide)
      exact u_iret C h hr hQ (⟨(iv_w ir38 (by decide)), tf39, of39, ⟨fun z_ => absurd z_ (by omega), fun _ => (by omega)⟩, ⟨ac, k41, hac, ⟨fun z_ => absurd z_ (by omega), fun _ => rfl⟩⟩, ⟨rb, k45, (fun k hk => by rw [if_neg (by omega)])⟩, ⟨rk, k46, (fun k hk => by rw [if_neg (by omega)])⟩, ⟨rr1_f39, kRfqf39, (bump_eq (c := 1) pRfqf39 rfl (by decide) (by rw [if_neg (by omega), if_pos (by omega)]))⟩⟩) (Nat.le_of_ble_eq_true rfl) (Nat.le_of_ble_eq_true rfl) dX11_start_48
    · have c32 : r23.toInt ≠ 0 := fun z_ => c28 (Int32.toInt_inj.mp z_)
      have i33 : iv r23 1 1 := iv_Nl c32 ir23 (by decide)
      obtain ⟨i34, i35⟩ := cnr23 c32
      have i36 : iv u2 0 9 := ⟨by omega, by omega⟩
      refine lv_iload_n hx hb dX11_start_31 rfl (lv_at hl 3 rfl) ?_
      refine lv_i2l hx hb dX11_start_32 rfl (i_topL hu3 (fun w47 ew47 mw47 iw47 => ?_))
      refine lv_lconst (v := 0) hx hb dX11_start_33 (by decide) ?_
      refine lv_ldc2 (v := 9) hx hb hown (hts _ w_1648) dX11_start_34 ?_
      refine k_i (r_S C h hl (As := [.long w47, .long 0, .long 9]) (rest := []) (s_X11_isInX l D G b0 τ f1 tf1 w47 0 9) mk_X11_isIn w_1624 w_1625 w_1626 ⟨Nat.le_of_ble_eq_true rfl, Nat.le_of_ble_eq_true rfl⟩ rfl (Nat.le_of_ble_eq_true rfl) ⟨Nat.le_of_ble_eq_true rfl, Nat.le_of_ble_eq_true rfl⟩ rfl dX11_start_37) h (fun r48 f49 H locs p50 h => ?_)
      have n51 : (0 : Int64).toInt = 0 := rfl
      have n52 : (9 : Int64).toInt = 9 := rfl
      obtain ⟨ir48, tf49, ogf49, cnr48, czr48⟩ := p50
      have egf49 := Fr.nil2 ogf49
      subst egf49
      refine lv_if_ne (tgt := 49) hx hb dX11_start_40 (by decide) (fun c53 => ?_) (fun c53 => ?_)
      · have c54 : r48.toInt ≠ 0 := fun z_ => c53 (Int32.toInt_inj.mp z_)
        have i55 : iv r48 1 1 := iv_Nl c54 ir48 (by decide)
        obtain ⟨i56, i57⟩ := cnr48 c54
        have i58 : iv u3 0 9 := ⟨by omega, by omega⟩
        refine lv_bipush (v := 10) hx hb dX11_start_49 (by decide) ?_
        refine lv_aload_n hx hb dX11_start_51 rfl (lv_at hl 0 rfl) ?_
        refine lv_iload_n hx hb dX11_start_52 rfl (lv_at hl 1 rfl) ?_
        refine lv_bipush (v := 8) hx hb dX11_start_53 (by decide) ?_
        obtain ⟨_, r62⟩ := t_rec tf1 hu0 (by decide) wf_60
        refine k_i (r_V C h hl (As := [.int u1, .int 8]) (rest := [.int 10]) (s_X11_weightOfX l D G b0 τ f1 tf1 u0 hu0 u1 i17 8 (iv_w (iv_k (x := 8) (k := 8) rfl) (by decide)) bq hbq k3 rb k6) r62 (Cn := RX11) (T := TX11) (N := 32) rfl rfl mk_X11_weightOf w_1631 w_1633 w_52 w_1634 ⟨Nat.le_of_ble_eq_true rfl, Nat.le_of_ble_eq_true rfl⟩ rfl (Nat.le_of_ble_eq_true rfl) ⟨Nat.le_of_ble_eq_true rfl, Nat.le_of_ble_eq_true rfl⟩ rfl dX11_start_55) h (fun r63 f64 H locs p65 h => ?_)
        have n66 : (8 : Int32).toInt = 8 := rfl
        obtain ⟨ir63, tf64, ogf64, x0r63, x1r63⟩ := p65
        have x0r63 : r63 = (rb (10 * u1.toInt + 8).toNat) := x0r63
        have x1r63 : r63.toInt = (rb (10 * u1.toInt + 8).toNat).toInt := x1r63
        have egf64 := Fr.nil2 ogf64
        subst egf64
        refine i_cmul hx hb dX11_start_58 (k := 10) rfl ir63 (lo := 0) (hi := 90) (by decide) (fun z67 ez67 mz67 iz67 => ?_)
        refine lv_aload_n hx hb dX11_start_59 rfl (lv_at hl 0 rfl) ?_
        refine lv_iload_n hx hb dX11_start_60 rfl (lv_at hl 1 rfl) ?_
        refine lv_bipush (v := 9) hx hb dX11_start_61 (by decide) ?_
        obtain ⟨_, r68⟩ := t_rec tf1 hu0 (by decide) wf_60
        refine k_i (r_V C h hl (As := [.int u1, .int 9]) (rest := [.int z67]) (s_X11_weightOfX l D G b0 τ f1 tf1 u0 hu0 u1 i17 9 (iv_w (iv_k (x := 9) (k := 9) rfl) (by decide)) bq hbq k3 rb k6) r68 (Cn := RX11) (T := TX11) (N := 32) rfl rfl mk_X11_weightOf w_1631 w_1633 w_52 w_1634 ⟨Nat.le_of_ble_eq_true rfl, Nat.le_of_ble_eq_true rfl⟩ rfl (Nat.le_of_ble_eq_true rfl) ⟨Nat.le_of_ble_eq_true rfl, Nat.le_of_ble_eq_true rfl⟩ rfl dX11_start_63) h (fun r69 f70 H locs p71 h => ?_)
        have n72 : (9 : Int32).toInt = 9 := rfl
        obtain ⟨ir69, tf70, ogf70, x0r69, x1r69⟩ := p71
        have x0r69 : r69 = (rb (10 * u1.toInt + 9).toNat) := x0r69
        have x1r69 : r69.toInt = (rb (10 * u1.toInt + 9).toNat).toInt := x1r69
        have egf70 := Fr.nil2 ogf70
        subst egf70
        refine i_add hx hb dX11_start_66 iz67 ir69 (lo := 0) (hi := 99) (by decide) (fun z73 ez73 mz73 iz73 => ?_)
        refine lv_istore (lv' := [(4, .int z73), (0, .ref u0), (1, .int u1), (2, .int u2), (3, .int u3)]) hx hb dX11_start_67 hl (by decide) rfl (fun ls hl => ?_)
        refine lv_iload hx hb dX11_start_69 (lv_at hl 0 rfl) ?_
        refine lv_bipush (v := 10) hx hb dX11_start_71 (by decide) ?_
        refine lv_iload_n hx hb dX11_start_73 rfl (lv_at hl 3 rfl) ?_
        refine i_cmul hx hb dX11_start_74 (k := 10) rfl i36 (lo := 0) (hi := 90) (by decide) (fun z74 ez74 mz74 iz74 => ?_)
        refine lv_iload_n hx hb dX11_start_75 rfl (lv_at hl 4 rfl) ?_
        refine i_add hx hb dX11_start_76 iz74 i58 (lo := 0) (hi := 99) (by decide) (fun z75 ez75 mz75 iz75 => ?_)
        refine lv_icmp_ne (tgt := 86) hx hb dX11_start_77 (by decide) (fun c76 => ?_) (fun c76 => ?_)
        · have c77 : z73.toInt ≠ z75.toInt := fun z_ => c76 (Int32.toInt_inj.mp z_)
          refine lv_aload_n hx hb dX11_start_86 rfl (lv_at hl 1 rfl) ?_
          obtain ⟨_, r79⟩ := t_rec tf1 hu0 (by decide) wf_60
          refine k_v (r_V C h hl (As := []) (rest := []) (s_X11_keepsX l D G b0 τ f1 tf1 u0 hu0 ac hac k2 bq hbq k3 kq hkq k4 rb k6 rk k7) r79 (Cn := RX11) (T := TX11) (N := 32) rfl rfl mk_X11_keeps w_1612 w_1614 w_50 w_1615 ⟨Nat.le_of_ble_eq_true rfl, Nat.le_of_ble_eq_true rfl⟩ rfl (Nat.le_of_ble_eq_true rfl) ⟨Nat.le_of_ble_eq_true rfl, Nat.le_of_ble_eq_true rfl⟩ rfl dX11_start_87) h (fun f81 H locs p82 h => ?_)
          obtain ⟨tf81, ogf81, ⟨ac1_f81, kpu0_10f81, ipu0_10f81, rpu0_10f81⟩, ⟨rk1_f81, kRkqf81, pRkqf81⟩⟩ := p82
          have of81 : Fr [60, 63, 65, 66, 60001, 60011] τ f f81 := Fr.tr of1 ogf81 (by decide) (by decide)
          have k83 := atp.fk k3 ogf81 hu0 (by decide) (by decide)
          have k84 := atp.fk k4 ogf81 hu0 (by decide) (by decide)
          have k85 := atp.fk k5 ogf81 hu0 (by decide) (by decide)
          have k86 := atp.fr k6 ogf81 hbq (by decide)
          have k87 := atp.fr k8 ogf81 hfq (by decide)
          refine lv_aload_n hx hb dX11_start_90 rfl (lv_at hl 1 rfl) ?_
          refine t_getfd C h tf81 hu0 (by decide) wf_60 (v := .ref bq) k83 fl_X11_17 dX11_start_91 ?_
          refine lv_bipush (v := 10) hx hb dX11_start_94 (by decide) ?_
          refine lv_iload_n hx hb dX11_start_96 rfl (lv_at hl 2 rfl) ?_
          refine i_cmul hx hb dX11_start_97 (k := 10) rfl i17 (lo := 0) (hi := 70) (by decide) (fun z88 ez88 mz88 iz88 => ?_)
          refine lv_bipush (v := 8) hx hb dX11_start_98 (by decide) ?_
          refine i_addk hx hb dX11_start_100 iz88 (k := 8) rfl (lo := 8) (hi := 78) (by decide) (fun z89 ez89 mz89 iz89 => ?_)
          refine lv_iload_n hx hb dX11_start_101 rfl (lv_at hl 3 rfl) ?_
          refine e_bkst C h tf81 of81 hbq (by decide) (by decide) wf_63 fw_63 k86 (Or.inl ⟨iv_w iz89 (by decide), i36⟩) dX11_start_102 (fun R92 f90 erR92 H locs h tf90 of90 hq hn_ k91 => ?_)
          have k93 := atp.tg k83 hq hu0 (by decide)
          have k94 := atp.tg k84 hq hu0 (by decide)
          have k95 := atp.tg k85 hq hu0 (by decide)
          have k97 := atp.tg k87 hq hfq (by decide)
          have k98 := atp.tg kpu0_10f81 hq hu0 (by decide)
          have k99 := atp.tg kRkqf81 hq hkq (by decide)
          refine lv_aload_n hx hb dX11_start_103 rfl (lv_at hl 1 rfl) ?_
          refine t_getfd C h tf90 hu0 (by decide) wf_60 (v := .ref bq) k93 fl_X11_17 dX11_start_104 ?_
          refine lv_bipush (v := 10) hx hb dX11_start_107 (by decide) ?_
          refine lv_iload_n hx hb dX11_start_109 rfl (lv_at hl 2 rfl) ?_
          refine i_cmul hx hb dX11_start_110 (k := 10) rfl i17 (lo := 0) (hi := 70) (by decide) (fun z100 ez100 mz100 iz100 => ?_)
          refine lv_bipush (v := 9) hx hb dX11_start_111 (by decide) ?_
          refine i_addk hx hb dX11_start_113 iz100 (k := 9) rfl (lo := 9) (hi := 79) (by decide) (fun z101 ez101 mz101 iz101 => ?_)
          refine lv_iload_n hx hb dX11_start_114 rfl (lv_at hl 4 rfl) ?_
          refine e_bkst C h tf90 of90 hbq (by decide) (by decide) wf_63 fw_63 k91 (Or.inl ⟨iv_w iz101 (by decide), i58⟩) dX11_start_115 (fun R104 f102 erR104 H locs h tf102 of102 hq hn_ k103 => ?_)
          have k105 := atp.tg k93 hq hu0 (by decide)
          have k106 := atp.tg k94 hq hu0 (by decide)
          have k107 := atp.tg k95 hq hu0 (by decide)
          have k108 := atp.tg k97 hq hfq (by decide)
          have k109 := atp.tg k98 hq hu0 (by decide)
          have k110 := atp.tg k99 hq hkq (by decide)
          refine lv_iload hx hb dX11_start_116 (lv_at hl 0 rfl) ?_
          exact u_iret C h hr hQ (⟨(iv_w iz73 (by decide)), tf102, of102, ⟨fun _ => (by omega), fun z_ => (z_ (by omega)).elim⟩, ⟨ac1_f81, k109, (iv_w ipu0_10f81 (by decide)), ⟨fun _ => (by omega), fun z_ => (z_ (by omega)).elim⟩⟩, ⟨R104, k103, (fun k hk => by
              rw [if_pos (by omega)]
              rw [erR104, erR92]; unfold so; by_cases q9 : k = z101.toInt.toNat
              · rw [upd_at q9, if_neg (by omega), if_pos (by omega)]
              · rw [upd_off q9]; by_cases q8 : k = z89.toInt.toNat
                · rw [upd_at q8, if_pos (by omega)]
                · rw [upd_off q8, if_neg (by omega), if_neg (by omega)])⟩, ⟨rk1_f81, k110, (fun k hk => by rw [if_pos (by omega)]; exact pRkqf81 k hk)⟩, ⟨rr, k108, (bump_no (by rw [if_neg (by omega), if_neg (by omega), if_neg (by omega)]))⟩⟩) (Nat.le_of_ble_eq_true rfl) (Nat.le_of_ble_eq_true rfl) dX11_start_118
        · have c78 : z73.toInt = z75.toInt := congrArg Int32.toInt c76
          refine lv_aload_n hx hb dX11_start_80 rfl (lv_at hl 1 rfl) ?_
          refine lv_iconst (v := 3) hx hb dX11_start_81 (by decide) ?_
          obtain ⟨_, r112⟩ := t_rec tf1 hu0 (by decide) wf_60
          refine k_i (r_V C h hl (As := [.int 3]) (rest := []) (s_X11_refuseX l D G b0 τ f1 tf1 u0 hu0 3 (iv_w (iv_k (x := 3) (k := 3) rfl) (by decide)) fq hfq k5 rr k8) r112 (Cn := RX11) (T := TX11) (N := 32) rfl rfl mk_X11_refuse w_1604 w_1606 w_48 w_1607 ⟨Nat.le_of_ble_eq_true rfl, Nat.le_of_ble_eq_true rfl⟩ rfl (Nat.le_of_ble_eq_true rfl) ⟨Nat.le_of_ble_eq_true rfl, Nat.le_of_ble_eq_true rfl⟩ rfl dX11_start_82) h (fun r113 f114 H locs p115 h => ?_)
          obtain ⟨ir113, tf114, ogf114, ⟨rr1_f114, kRfqf114, pRfqf114⟩⟩ := p115
          have of114 : Fr [60, 63, 65, 66, 60001, 60011] τ f f114 := Fr.tr of1 ogf114 (by decide) (by decide)
          have k116 := atp.fr k2 ogf114 hu0 (by decide)
          have k117 := atp.fr k3 ogf114 hu0 (by decide)
          have k118 := atp.fr k4 ogf114 hu0 (by decide)
          have k119 := atp.fr k5 ogf114 hu0 (by decide)
          have k120 := atp.fr k6 ogf114 hbq (by decide)
          have k121 := atp.fr k7 ogf114 hkq (by decide)
          exact u_iret C h hr hQ (⟨(iv_w ir113 (by decide)), tf114, of114, ⟨fun z_ => absurd z_ (by omega), fun _ => (by omega)⟩, ⟨ac, k116, hac, ⟨fun z_ => absurd z_ (by omega), fun _ => rfl⟩⟩, ⟨rb, k120, (fun k hk => by rw [if_neg (by omega)])⟩, ⟨rk, k121, (fun k hk => by rw [if_neg (by omega)])⟩, ⟨rr1_f114, kRfqf114, (bump_eq (c := 3) pRfqf114 rfl (by decide) (by rw [if_neg (by omega), if_neg (by omega), if_pos (by omega)]))⟩⟩) (Nat.le_of_ble_eq_true rfl) (Nat.le_of_ble_eq_true rfl) dX11_start_85
      · have c59 : r48.toInt = 0 := congrArg Int32.toInt c53
        have i60 : iv r48 0 0 := iv_Q c59 ir48 (iv_k (x := 0) (k := 0) rfl) (by decide)
        have i61 := czr48 c59
        refine lv_aload_n hx hb dX11_start_43 rfl (lv_at hl 0 rfl) ?_
        refine lv_iconst (v := 1) hx hb dX11_start_44 (by decide) ?_
        obtain ⟨_, r122⟩ := t_rec tf1 hu0 (by decide) wf_60
        refine k_i (r_V C h hl (As := [.int 1]) (rest := []) (s_X11_refuseX l D G b0 τ f1 tf1 u0 hu0 1 (iv_w (iv_k (x := 1) (k := 1) rfl) (by decide)) fq hfq k5 rr k8) r122 (Cn := RX11) (T := TX11) (N := 32) rfl rfl mk_X11_refuse w_1604 w_1606 w_48 w_1607 ⟨Nat.le_of_ble_eq_true rfl, Nat.le_of_ble_eq_true rfl⟩ rfl (Nat.le_of_ble_eq_true rfl) ⟨Nat.le_of_ble_eq_true rfl, Nat.le_of_ble_eq_true rfl⟩ rfl dX11_start_45) h (fun r123 f124 H locs p125 h => ?_)
        obtain ⟨ir123, tf124, ogf124, ⟨rr1_f124, kRfqf124, pRfqf124⟩⟩ := p125
        have of124 : Fr [60, 63, 65, 66, 60001, 60011] τ f f124 := Fr.tr of1 ogf124 (by decide) (by decide)
        have k126 := atp.fr k2 ogf124 hu0 (by decide)
        have k127 := atp.fr k3 ogf124 hu0 (by decide)
        have k128 := atp.fr k4 ogf124 hu0 (by decide)
        have k129 := atp.fr k5 ogf124 hu0 (by decide)
        have k130 := atp.fr k6 ogf124 hbq (by decide)
        have k131 := atp.fr k7 ogf124 hkq (by decide)
        exact u_iret C h hr hQ (⟨(iv_w ir123 (by decide)), tf124, of124, ⟨fun z_ => absurd z_ (by omega), fun _ => (by omega)⟩, ⟨ac, k126, hac, ⟨fun z_ => absurd z_ (by omega), fun _ => rfl⟩⟩, ⟨rb, k130, (fun k hk => by rw [if_neg (by omega)])⟩, ⟨rk, k131, (fun k hk => by rw [if_neg (by omega)])⟩, ⟨rr1_f124, kRfqf124, (bump_eq (c := 1) pRfqf124 rfl (by decide) (by rw [if_neg (by omega), if_pos (by omega)]))⟩⟩) (Nat.le_of_ble_eq_true rfl) (Nat.le_of_ble_eq_true rfl) dX11_start_48
  · have c19 : r11.toInt = 0 := congrArg Int32.toInt c14
    have i20 : iv r11 0 0 := iv_Q c19 ir11 (iv_k (x := 0) (k := 0) rfl) (by decide)
    have i21 := czr11 c19
    refine lv_aload_n hx hb dX11_start_13 rfl (lv_at hl 0 rfl) ?_
    refine lv_iconst (v := 0) hx hb dX11_start_14 (by decide) ?_
    obtain ⟨_, r132⟩ := t_rec tf1 hu0 (by decide) wf_60
    refine k_i (r_V C h hl (As := [.int 0]) (rest := []) (s_X11_refuseX l D G b0 τ f1 tf1 u0 hu0 0 (iv_w (iv_k (x := 0) (k := 0) rfl) (by decide)) fq hfq k5 rr k8) r132 (Cn := RX11) (T := TX11) (N := 32) rfl rfl mk_X11_refuse w_1604 w_1606 w_48 w_1607 ⟨Nat.le_of_ble_eq_true rfl, Nat.le_of_ble_eq_true rfl⟩ rfl (Nat.le_of_ble_eq_true rfl) ⟨Nat.le_of_ble_eq_true rfl, Nat.le_of_ble_eq_true rfl⟩ rfl dX11_start_15) h (fun r133 f134 H locs p135 h => ?_)
    obtain ⟨ir133, tf134, ogf134, ⟨rr1_f134, kRfqf134, pRfqf134⟩⟩ := p135
    have of134 : Fr [60, 63, 65, 66, 60001, 60011] τ f f134 := Fr.tr of1 ogf134 (by decide) (by decide)
    have k136 := atp.fr k2 ogf134 hu0 (by decide)
    have k137 := atp.fr k3 ogf134 hu0 (by decide)
    have k138 := atp.fr k4 ogf134 hu0 (by decide)
    have k139 := atp.fr k5 ogf134 hu0 (by decide)
    have k140 := atp.fr k6 ogf134 hbq (by decide)
    have k141 := atp.fr k7 ogf134 hkq (by decide)
    exact u_iret C h hr hQ (⟨(iv_w ir133 (by decide)), tf134, of134, ⟨fun z_ => absurd z_ (by omega), fun _ => (by omega)⟩, ⟨ac, k136, hac, ⟨fun z_ => absurd z_ (by omega), fun _ => rfl⟩⟩, ⟨rb, k140, (fun k hk => by rw [if_neg (by omega)])⟩, ⟨rk, k141, (fun k hk => by rw [if_neg (by omega)])⟩, ⟨rr1_f134, kRfqf134, (bump_eq (c := 0) pRfqf134 rfl (by decide) (by rw [if_pos (by omega)]))⟩⟩) (Nat.le_of_ble_eq_true rfl) (Nat.le_of_ble_eq_true rfl) dX11_start_18
