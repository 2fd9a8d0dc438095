theorem dX10_scale_0 : decode cX10_scale 0 = .ok (.aload_n 0, 1) := by decide +kernel
theorem dX10_scale_1 : decode cX10_scale 1 = .ok (.getfield 19, 3) := by decide +kernel
theorem dX10_scale_4 : decode cX10_scale 4 = .ok (.iload_n 1, 1) := by decide +kernel
theorem dX10_scale_5 : decode cX10_scale 5 = .ok (.invokevirtual 110, 3) := by decide +kernel
theorem dX10_scale_8 : decode cX10_scale 8 = .ok (.astore_n 3, 1) := by decide +kernel
theorem dX10_scale_9 : decode cX10_scale 9 = .ok (.aload_n 3, 1) := by decide +kernel
theorem dX10_scale_10 : decode cX10_scale 10 = .ok (.ifnonnull 9, 3) := by decide +kernel
theorem dX10_scale_13 : decode cX10_scale 13 = .ok (.aload_n 0, 1) := by decide +kernel
theorem dX10_scale_14 : decode cX10_scale 14 = .ok (.iconst 0, 1) := by decide +kernel
theorem dX10_scale_15 : decode cX10_scale 15 = .ok (.invokevirtual 95, 3) := by decide +kernel
theorem dX10_scale_19 : decode cX10_scale 19 = .ok (.iload_n 2, 1) := by decide +kernel
theorem dX10_scale_20 : decode cX10_scale 20 = .ok (.iconst 2, 1) := by decide +kernel
theorem dX10_scale_21 : decode cX10_scale 21 = .ok (.bipush 9, 2) := by decide +kernel
theorem dX10_scale_23 : decode cX10_scale 23 = .ok (.invokestatic 87, 3) := by decide +kernel
theorem dX10_scale_26 : decode cX10_scale 26 = .ok (.ifCond .ne 9, 3) := by decide +kernel
theorem dX10_scale_35 : decode cX10_scale 35 = .ok (.bipush 8, 2) := by decide +kernel
theorem dX10_scale_37 : decode cX10_scale 37 = .ok (.newarray .int, 2) := by decide +kernel
theorem dX10_scale_39 : decode cX10_scale 39 = .ok (.astore 4, 2) := by decide +kernel
theorem dX10_scale_41 : decode cX10_scale 41 = .ok (.iconst 0, 1) := by decide +kernel
theorem dX10_scale_42 : decode cX10_scale 42 = .ok (.istore 5, 2) := by decide +kernel
theorem dX10_scale_29 : decode cX10_scale 29 = .ok (.aload_n 0, 1) := by decide +kernel
theorem dX10_scale_30 : decode cX10_scale 30 = .ok (.iconst 1, 1) := by decide +kernel
theorem dX10_scale_31 : decode cX10_scale 31 = .ok (.invokevirtual 95, 3) := by decide +kernel
theorem dX10_scale_44 : decode cX10_scale 44 = .ok (.iload 5, 2) := by decide +kernel
theorem dX10_scale_46 : decode cX10_scale 46 = .ok (.bipush 8, 2) := by decide +kernel
theorem dX10_scale_48 : decode cX10_scale 48 = .ok (.if_icmp .ge 23, 3) := by decide +kernel
theorem dX10_scale_51 : decode cX10_scale 51 = .ok (.aload 4, 2) := by decide +kernel
theorem dX10_scale_53 : decode cX10_scale 53 = .ok (.iload 5, 2) := by decide +kernel
theorem dX10_scale_55 : decode cX10_scale 55 = .ok (.aload_n 3, 1) := by decide +kernel
theorem dX10_scale_56 : decode cX10_scale 56 = .ok (.getfield 135, 3) := by decide +kernel
theorem dX10_scale_59 : decode cX10_scale 59 = .ok (.iload 5, 2) := by decide +kernel
theorem dX10_scale_61 : decode cX10_scale 61 = .ok (.iaload, 1) := by decide +kernel
theorem dX10_scale_62 : decode cX10_scale 62 = .ok (.iload_n 2, 1) := by decide +kernel
theorem dX10_scale_63 : decode cX10_scale 63 = .ok (.imul, 1) := by decide +kernel
theorem dX10_scale_64 : decode cX10_scale 64 = .ok (.iastore, 1) := by decide +kernel
theorem dX10_scale_65 : decode cX10_scale 65 = .ok (.iinc 5 1, 3) := by decide +kernel
theorem dX10_scale_68 : decode cX10_scale 68 = .ok (.goto (-24), 3) := by decide +kernel
theorem dX10_scale_71 : decode cX10_scale 71 = .ok (.aload 4, 2) := by decide +kernel
theorem dX10_scale_73 : decode cX10_scale 73 = .ok (.invokestatic 138, 3) := by decide +kernel
theorem dX10_scale_76 : decode cX10_scale 76 = .ok (.ifCond .ne 9, 3) := by decide +kernel
theorem dX10_scale_85 : decode cX10_scale 85 = .ok (.new 121, 3) := by decide +kernel
theorem dX10_scale_88 : decode cX10_scale 88 = .ok (.dup, 1) := by decide +kernel
theorem dX10_scale_89 : decode cX10_scale 89 = .ok (.aload 4, 2) := by decide +kernel
theorem dX10_scale_91 : decode cX10_scale 91 = .ok (.aload_n 3, 1) := by decide +kernel
theorem dX10_scale_92 : decode cX10_scale 92 = .ok (.getfield 125, 3) := by decide +kernel
theorem dX10_scale_95 : decode cX10_scale 95 = .ok (.aload_n 3, 1) := by decide +kernel
theorem dX10_scale_96 : decode cX10_scale 96 = .ok (.getfield 120, 3) := by decide +kernel
theorem dX10_scale_99 : decode cX10_scale 99 = .ok (.invokespecial 142, 3) := by decide +kernel
theorem dX10_scale_102 : decode cX10_scale 102 = .ok (.astore 5, 2) := by decide +kernel
theorem dX10_scale_104 : decode cX10_scale 104 = .ok (.aload_n 0, 1) := by decide +kernel
theorem dX10_scale_105 : decode cX10_scale 105 = .ok (.getfield 19, 3) := by decide +kernel
theorem dX10_scale_108 : decode cX10_scale 108 = .ok (.iload_n 1, 1) := by decide +kernel
theorem dX10_scale_109 : decode cX10_scale 109 = .ok (.aload 5, 2) := by decide +kernel
theorem dX10_scale_111 : decode cX10_scale 111 = .ok (.invokevirtual 145, 3) := by decide +kernel
theorem w_632 : Cond.methodLink "QuarterWalks" 145 yX0_replace ∈ wAll := wI3 57 (by decide +kernel) (by decide +kernel)
theorem w_634 : Cond.selects yX0_replace.cls yX0_replace yX0_replace ∈ wAll := wI3 59 (by decide +kernel) (by decide +kernel)
theorem mk_X0_replace : mk yX0_replace 2 := ⟨by decide +kernel, w_98⟩
theorem w_633 : Cond.instanceMethod yX0_replace ∈ wAll := wI3 58 (by decide +kernel) (by decide +kernel)
theorem w_635 : Cond.code yX0_replace cX0_replace 3 none ∈ wAll := wI3 60 (by decide +kernel) (by decide +kernel)
theorem dX10_scale_114 : decode cX10_scale 114 = .ok (.aload 5, 2) := by decide +kernel
theorem dX10_scale_116 : decode cX10_scale 116 = .ok (.invokevirtual 149, 3) := by decide +kernel
theorem dX10_scale_79 : decode cX10_scale 79 = .ok (.aload_n 0, 1) := by decide +kernel
theorem dX10_scale_80 : decode cX10_scale 80 = .ok (.iconst 1, 1) := by decide +kernel
theorem dX10_scale_81 : decode cX10_scale 81 = .ok (.invokevirtual 95, 3) := by decide +kernel
theorem dX10_scale_18 : decode cX10_scale 18 = .ok (.ireturn, 1) := by decide +kernel
theorem dX10_scale_119 : decode cX10_scale 119 = .ok (.ireturn, 1) := by decide +kernel
theorem dX10_scale_84 : decode cX10_scale 84 = .ok (.ireturn, 1) := by decide +kernel
theorem dX10_scale_34 : decode cX10_scale 34 = .ok (.ireturn, 1) := by decide +kernel
theorem dX10_start_0 : decode cX10_start 0 = .ok (.aload_n 0, 1) := by decide +kernel
theorem dX10_start_1 : decode cX10_start 1 = .ok (.getfield 19, 3) := by decide +kernel
theorem dX10_start_4 : decode cX10_start 4 = .ok (.iload_n 1, 1) := by decide +kernel
theorem dX10_start_5 : decode cX10_start 5 = .ok (.invokevirtual 110, 3) := by decide +kernel
theorem dX10_start_8 : decode cX10_start 8 = .ok (.astore 4, 2) := by decide +kernel
theorem dX10_start_10 : decode cX10_start 10 = .ok (.aload 4, 2) := by decide +kernel
theorem dX10_start_12 : decode cX10_start 12 = .ok (.ifnonnull 9, 3) := by decide +kernel
theorem dX10_start_15 : decode cX10_start 15 = .ok (.aload_n 0, 1) := by decide +kernel
theorem dX10_start_16 : decode cX10_start 16 = .ok (.iconst 0, 1) := by decide +kernel
theorem dX10_start_17 : decode cX10_start 17 = .ok (.invokevirtual 95, 3) := by decide +kernel
theorem dX10_start_21 : decode cX10_start 21 = .ok (.iload_n 2, 1) := by decide +kernel
theorem dX10_start_22 : decode cX10_start 22 = .ok (.iconst 0, 1) := by decide +kernel
theorem dX10_start_23 : decode cX10_start 23 = .ok (.bipush 9, 2) := by decide +kernel
theorem dX10_start_25 : decode cX10_start 25 = .ok (.invokestatic 87, 3) := by decide +kernel
theorem dX10_start_28 : decode cX10_start 28 = .ok (.ifCond .eq 13, 3) := by decide +kernel
theorem dX10_start_41 : decode cX10_start 41 = .ok (.aload_n 0, 1) := by decide +kernel
theorem dX10_start_42 : decode cX10_start 42 = .ok (.iconst 1, 1) := by decide +kernel
theorem dX10_start_43 : decode cX10_start 43 = .ok (.invokevirtual 95, 3) := by decide +kernel
theorem dX10_start_31 : decode cX10_start 31 = .ok (.iload_n 3, 1) := by decide +kernel
theorem dX10_start_32 : decode cX10_start 32 = .ok (.iconst 0, 1) := by decide +kernel
theorem dX10_start_33 : decode cX10_start 33 = .ok (.bipush 9, 2) := by decide +kernel
theorem dX10_start_35 : decode cX10_start 35 = .ok (.invokestatic 87, 3) := by decide +kernel
theorem dX10_start_38 : decode cX10_start 38 = .ok (.ifCond .ne 9, 3) := by decide +kernel
theorem dX10_start_47 : decode cX10_start 47 = .ok (.iload_n 2, 1) := by decide +kernel
theorem dX10_start_48 : decode cX10_start 48 = .ok (.aload 4, 2) := by decide +kernel
theorem dX10_start_50 : decode cX10_start 50 = .ok (.getfield 125, 3) := by decide +kernel
theorem dX10_start_53 : decode cX10_start 53 = .ok (.if_icmp .ne 18, 3) := by decide +kernel
theorem dX10_start_71 : decode cX10_start 71 = .ok (.aload_n 0, 1) := by decide +kernel
theorem dX10_start_72 : decode cX10_start 72 = .ok (.getfield 19, 3) := by decide +kernel
theorem dX10_start_75 : decode cX10_start 75 = .ok (.iload_n 1, 1) := by decide +kernel
theorem dX10_start_76 : decode cX10_start 76 = .ok (.new 121, 3) := by decide +kernel
theorem dX10_start_79 : decode cX10_start 79 = .ok (.dup, 1) := by decide +kernel
theorem dX10_start_80 : decode cX10_start 80 = .ok (.aload 4, 2) := by decide +kernel
theorem dX10_start_82 : decode cX10_start 82 = .ok (.getfield 135, 3) := by decide +kernel
theorem dX10_start_85 : decode cX10_start 85 = .ok (.iload_n 2, 1) := by decide +kernel
theorem dX10_start_86 : decode cX10_start 86 = .ok (.iload_n 3, 1) := by decide +kernel
theorem dX10_start_87 : decode cX10_start 87 = .ok (.invokespecial 142, 3) := by decide +kernel
theorem dX10_start_90 : decode cX10_start 90 = .ok (.invokevirtual 145, 3) := by decide +kernel
theorem dX10_start_93 : decode cX10_start 93 = .ok (.bipush 10, 2) := by decide +kernel
theorem dX10_start_95 : decode cX10_start 95 = .ok (.aload 4, 2) := by decide +kernel
theorem dX10_start_97 : decode cX10_start 97 = .ok (.getfield 125, 3) := by decide +kernel
theorem dX10_start_100 : decode cX10_start 100 = .ok (.imul, 1) := by decide +kernel
theorem dX10_start_101 : decode cX10_start 101 = .ok (.aload 4, 2) := by decide +kernel
theorem dX10_start_103 : decode cX10_start 103 = .ok (.getfield 120, 3) := by decide +kernel
theorem dX10_start_106 : decode cX10_start 106 = .ok (.iadd, 1) := by decide +kernel
theorem dX10_start_56 : decode cX10_start 56 = .ok (.iload_n 3, 1) := by decide +kernel
theorem dX10_start_57 : decode cX10_start 57 = .ok (.aload 4, 2) := by decide +kernel
theorem dX10_start_59 : decode cX10_start 59 = .ok (.getfield 120, 3) := by decide +kernel
theorem dX10_start_62 : decode cX10_start 62 = .ok (.if_icmp .ne 9, 3) := by decide +kernel
theorem dX10_start_65 : decode cX10_start 65 = .ok (.aload_n 0, 1) := by decide +kernel
theorem dX10_start_66 : decode cX10_start 66 = .ok (.iconst 3, 1) := by decide +kernel
theorem dX10_start_67 : decode cX10_start 67 = .ok (.invokevirtual 95, 3) := by decide +kernel
theorem dX10_start_20 : decode cX10_start 20 = .ok (.ireturn, 1) := by decide +kernel
theorem dX10_start_46 : decode cX10_start 46 = .ok (.ireturn, 1) := by decide +kernel
theorem dX10_start_107 : decode cX10_start 107 = .ok (.ireturn, 1) := by decide +kernel
theorem dX10_start_70 : decode cX10_start 70 = .ok (.ireturn, 1) := by decide +kernel
theorem dX10_weigh_0 : decode cX10_weigh 0 = .ok (.aload_n 0, 1) := by decide +kernel
theorem dX10_weigh_1 : decode cX10_weigh 1 = .ok (.getfield 19, 3) := by decide +kernel
theorem dX10_weigh_4 : decode cX10_weigh 4 = .ok (.iload_n 1, 1) := by decide +kernel
theorem dX10_weigh_5 : decode cX10_weigh 5 = .ok (.invokevirtual 110, 3) := by decide +kernel
theorem dX10_weigh_8 : decode cX10_weigh 8 = .ok (.astore 4, 2) := by decide +kernel
theorem dX10_weigh_10 : decode cX10_weigh 10 = .ok (.aload 4, 2) := by decide +kernel
theorem dX10_weigh_12 : decode cX10_weigh 12 = .ok (.ifnonnull 9, 3) := by decide +kernel
theorem dX10_weigh_15 : decode cX10_weigh 15 = .ok (.aload_n 0, 1) := by decide +kernel
theorem dX10_weigh_16 : decode cX10_weigh 16 = .ok (.iconst 0, 1) := by decide +kernel
theorem dX10_weigh_17 : decode cX10_weigh 17 = .ok (.invokevirtual 95, 3) := by decide +kernel
theorem dX10_weigh_21 : decode cX10_weigh 21 = .ok (.iload_n 2, 1) := by decide +kernel
theorem dX10_weigh_22 : decode cX10_weigh 22 = .ok (.iconst 0, 1) := by decide +kernel
theorem dX10_weigh_23 : decode cX10_weigh 23 = .ok (.bipush 7, 2) := by decide +kernel
theorem dX10_weigh_25 : decode cX10_weigh 25 = .ok (.invokestatic 87, 3) := by decide +kernel
theorem dX10_weigh_28 : decode cX10_weigh 28 = .ok (.ifCond .eq 13, 3) := by decide +kernel
theorem dX10_weigh_41 : decode cX10_weigh 41 = .ok (.aload_n 0, 1) := by decide +kernel
theorem dX10_weigh_42 : decode cX10_weigh 42 = .ok (.iconst 1, 1) := by decide +kernel
theorem dX10_weigh_43 : decode cX10_weigh 43 = .ok (.invokevirtual 95, 3) := by decide +kernel
theorem dX10_weigh_31 : decode cX10_weigh 31 = .ok (.iload_n 3, 1) := by decide +kernel
theorem dX10_weigh_32 : decode cX10_weigh 32 = .ok (.iconst 0, 1) := by decide +kernel
theorem dX10_weigh_33 : decode cX10_weigh 33 = .ok (.bipush 9, 2) := by decide +kernel
theorem dX10_weigh_35 : decode cX10_weigh 35 = .ok (.invokestatic 87, 3) := by decide +kernel
theorem dX10_weigh_38 : decode cX10_weigh 38 = .ok (.ifCond .ne 9, 3) := by decide +kernel
theorem dX10_weigh_47 : decode cX10_weigh 47 = .ok (.aload 4, 2) := by decide +kernel
theorem dX10_weigh_49 : decode cX10_weigh 49 = .ok (.getfield 135, 3) := by decide +kernel
theorem dX10_weigh_52 : decode cX10_weigh 52 = .ok (.iload_n 2, 1) := by decide +kernel
theorem dX10_weigh_53 : decode cX10_weigh 53 = .ok (.iaload, 1) := by decide +kernel
theorem dX10_weigh_54 : decode cX10_weigh 54 = .ok (.istore 5, 2) := by decide +kernel
theorem dX10_weigh_56 : decode cX10_weigh 56 = .ok (.iload_n 3, 1) := by decide +kernel
theorem dX10_weigh_57 : decode cX10_weigh 57 = .ok (.ifCond .ne 19, 3) := by decide +kernel
theorem dX10_weigh_76 : decode cX10_weigh 76 = .ok (.iload_n 3, 1) := by decide +kernel
theorem dX10_weigh_77 : decode cX10_weigh 77 = .ok (.iload 5, 2) := by decide +kernel
theorem dX10_weigh_79 : decode cX10_weigh 79 = .ok (.if_icmp .ne 9, 3) := by decide +kernel
theorem dX10_weigh_88 : decode cX10_weigh 88 = .ok (.aload 4, 2) := by decide +kernel
theorem dX10_weigh_90 : decode cX10_weigh 90 = .ok (.getfield 135, 3) := by decide +kernel
theorem dX10_weigh_93 : decode cX10_weigh 93 = .ok (.bipush 8, 2) := by decide +kernel
theorem dX10_weigh_95 : decode cX10_weigh 95 = .ok (.invokestatic 152, 3) := by decide +kernel
theorem w_644 : Cond.methodLink "QuarterWalks" 152 yJ7_copyOf_59c91 ∈ wAll := wI3 69 (by decide +kernel) (by decide +kernel)
theorem dX10_weigh_98 : decode cX10_weigh 98 = .ok (.astore 6, 2) := by decide +kernel
theorem dX10_weigh_100 : decode cX10_weigh 100 = .ok (.aload 6, 2) := by decide +kernel
theorem dX10_weigh_102 : decode cX10_weigh 102 = .ok (.iload_n 2, 1) := by decide +kernel
theorem dX10_weigh_103 : decode cX10_weigh 103 = .ok (.iload_n 3, 1) := by decide +kernel
theorem dX10_weigh_104 : decode cX10_weigh 104 = .ok (.iastore, 1) := by decide +kernel
theorem dX10_weigh_105 : decode cX10_weigh 105 = .ok (.aload_n 0, 1) := by decide +kernel
theorem dX10_weigh_106 : decode cX10_weigh 106 = .ok (.getfield 19, 3) := by decide +kernel
theorem dX10_weigh_109 : decode cX10_weigh 109 = .ok (.iload_n 1, 1) := by decide +kernel
theorem dX10_weigh_110 : decode cX10_weigh 110 = .ok (.new 121, 3) := by decide +kernel
theorem dX10_weigh_113 : decode cX10_weigh 113 = .ok (.dup, 1) := by decide +kernel
theorem dX10_weigh_114 : decode cX10_weigh 114 = .ok (.aload 6, 2) := by decide +kernel
theorem dX10_weigh_116 : decode cX10_weigh 116 = .ok (.aload 4, 2) := by decide +kernel
theorem dX10_weigh_118 : decode cX10_weigh 118 = .ok (.getfield 125, 3) := by decide +kernel
theorem dX10_weigh_121 : decode cX10_weigh 121 = .ok (.aload 4, 2) := by decide +kernel
theorem dX10_weigh_123 : decode cX10_weigh 123 = .ok (.getfield 120, 3) := by decide +kernel
theorem dX10_weigh_126 : decode cX10_weigh 126 = .ok (.invokespecial 142, 3) := by decide +kernel
theorem dX10_weigh_129 : decode cX10_weigh 129 = .ok (.invokevirtual 145, 3) := by decide +kernel
theorem dX10_weigh_132 : decode cX10_weigh 132 = .ok (.iload 5, 2) := by decide +kernel
theorem dX10_weigh_82 : decode cX10_weigh 82 = .ok (.aload_n 0, 1) := by decide +kernel
theorem dX10_weigh_83 : decode cX10_weigh 83 = .ok (.iconst 3, 1) := by decide +kernel
theorem dX10_weigh_84 : decode cX10_weigh 84 = .ok (.invokevirtual 95, 3) := by decide +kernel
theorem dX10_weigh_60 : decode cX10_weigh 60 = .ok (.iload 5, 2) := by decide +kernel
theorem dX10_weigh_62 : decode cX10_weigh 62 = .ok (.aload 4, 2) := by decide +kernel
theorem dX10_weigh_64 : decode cX10_weigh 64 = .ok (.invokevirtual 149, 3) := by decide +kernel
theorem dX10_weigh_67 : decode cX10_weigh 67 = .ok (.if_icmp .ne 9, 3) := by decide +kernel
theorem dX10_weigh_70 : decode cX10_weigh 70 = .ok (.aload_n 0, 1) := by decide +kernel
theorem dX10_weigh_71 : decode cX10_weigh 71 = .ok (.iconst 1, 1) := by decide +kernel
theorem dX10_weigh_72 : decode cX10_weigh 72 = .ok (.invokevirtual 95, 3) := by decide +kernel
theorem dX10_weigh_20 : decode cX10_weigh 20 = .ok (.ireturn, 1) := by decide +kernel
theorem dX10_weigh_46 : decode cX10_weigh 46 = .ok (.ireturn, 1) := by decide +kernel
theorem dX10_weigh_134 : decode cX10_weigh 134 = .ok (.ireturn, 1) := by decide +kernel
theorem dX10_weigh_87 : decode cX10_weigh 87 = .ok (.ireturn, 1) := by decide +kernel
theorem dX10_weigh_75 : decode cX10_weigh 75 = .ok (.ireturn, 1) := by decide +kernel
abbrev rm_s_X6_weightTotalX : Room := { frames := 0, cells := 0, slots := 0, locals := 0 }
set_option maxRecDepth 100000 in
set_option maxHeartbeats 4000000 in
theorem s_X6_weightTotalX (l : Launch) (D : va_G) (G : Nat → Nat) (b0 : Nat) (τ : Nat → Nat) (f : hM) (t : TI G 9 τ f) (u0 : Nat) (hu0 : τ u0 = 1) (wq : Nat) (hwq : τ wq = 2) (k_u0_0 : atp f u0 (fd 0 (.ref wq))) (ww : Nat → Int32) (hRwq : atp f wq (eqc (.inl (G 1, 8, .inl ww)))) : mI l yX6_weightTotal cX6_weightTotal 6 (.int) rm_s_X6_weightTotalX D G b0 f [.ref u0] (fun r f1 => iv r 0 72 ∧ TI G 9 τ f1 ∧ Fr [] τ f f1 ∧ (r.toInt = psm ww 8)) := by
  refine met2 (own := RX6) (by decide) rfl (Nat.le_of_ble_eq_true rfl) ?_
  intro p e s m args below meth c ls Q hQ C hr hini hl h
  have hl : lv_has ls 6 [(0, .ref u0)] := hl
  obtain ⟨hx, hb, hml, hown, hts, hE0, hlk⟩ := id C
  have o := Fr.rf [] τ f
  have L13 : ∀ (n13 : Nat) (ls : Array Slot) (f_13 : hM) (H : Heap) (locs : List Loc) (v13_1 : Int32) (v13_3 : Int32) (v13_4 : Int32), 8 - v13_4.toInt < (n13 : Int) → lv_has ls 6 [(1, .int v13_1), (2, .ref wq), (3, .int v13_3), (4, .int v13_4)] → hw D b0 s.heap f_13 H locs → TI G 9 τ f_13 → Fr [] τ f f_13 → iv v13_1 0 72 → iv v13_3 8 8 → iv v13_4 0 8 → atp f_13 u0 (fd 0 (.ref wq)) → atp f_13 wq (eqc (.inl (G 1, 8, .inl ww))) → (v13_1.toInt = psm ww (Int.toNat (v13_4.toInt))) → v13_1.toInt ≤ 9 * v13_4.toInt → W p l e rm_s_X6_weightTotalX s m args below meth c H locs 0 0 Q (F0 m 13 ls []) := by
    intro n13
    induction n13 with
    | zero => intro ls f_13 H locs v13_1 v13_3 v13_4 hm13 hl h t_13 o_13 iv13_1 iv13_3 iv13_4 k13_u0_0 k13_wq_R hv13_0 hv13_1; exact absurd hm13 (by omega)
    | succ n13 ih13 =>
      intro ls f_13 H locs v13_1 v13_3 v13_4 hm13 hl h t_13 o_13 iv13_1 iv13_3 iv13_4 k13_u0_0 k13_wq_R hv13_0 hv13_1
      refine lv_iload hx hb dX6_weightTotal_13 (lv_at hl 3 rfl) ?_
      refine lv_iload_n hx hb dX6_weightTotal_15 rfl (lv_at hl 2 rfl) ?_
      refine lv_icmp_ge (tgt := 36) hx hb dX6_weightTotal_16 (by decide) (fun c1 => ?_) (fun c1 => ?_)
      · have c2 : v13_3.toInt ≤ v13_4.toInt := Int32.le_iff_toInt_le.mp c1
        have i3 : iv v13_4 8 8 := iv_Er c2 iv13_3 iv13_4 (by decide)
        refine lv_iload_n hx hb dX6_weightTotal_36 rfl (lv_at hl 0 rfl) ?_
        exact u_iret C h hr hQ (⟨iv13_1, t_13, o_13, (by rw [hv13_0, show v13_4.toInt.toNat = 8 by omega])⟩) (Nat.le_of_ble_eq_true rfl) (Nat.le_of_ble_eq_true rfl) dX6_weightTotal_37
      · have c4 : v13_4.toInt < v13_3.toInt := Int32.lt_iff_toInt_lt.mp (iv_nle c1)
        have i5 : iv v13_4 0 7 := iv_Ll c4 iv13_4 iv13_3 (by decide)
        refine lv_aload_n hx hb dX6_weightTotal_19 rfl (lv_at hl 1 rfl) ?_
        refine lv_iload hx hb dX6_weightTotal_20 (lv_at hl 3 rfl) ?_
        refine e_iald C h t_13 hwq (by decide) wf_2 k13_wq_R (iv_in i5 (by decide)) dX6_weightTotal_22 (fun z6 ez6 iz6 => ?_)
        have mz6 := congrArg Int32.toInt ez6
        refine lv_istore (lv' := [(5, .int z6), (1, .int v13_1), (2, .ref wq), (3, .int v13_3), (4, .int v13_4)]) hx hb dX6_weightTotal_23 hl (by decide) rfl (fun ls hl => ?_)
        refine lv_iload_n hx hb dX6_weightTotal_25 rfl (lv_at hl 1 rfl) ?_
        refine lv_iload hx hb dX6_weightTotal_26 (lv_at hl 0 rfl) ?_
        refine i_add hx hb dX6_weightTotal_28 iv13_1 iz6 (lo := 0) (hi := 81) (by decide) (fun z7 ez7 mz7 iz7 => ?_)
        refine lv_istore_n (lv' := [(1, .int z7), (5, .int z6), (2, .ref wq), (3, .int v13_3), (4, .int v13_4)]) hx hb dX6_weightTotal_29 rfl hl (by decide) rfl (fun ls hl => ?_)
        refine i_inc hx hb dX6_weightTotal_30 hl (k := 4) rfl i5 rfl (lo := 1) (hi := 8) (by decide) (by decide) (lv' := fun v => [(4, .int v), (1, .int z7), (5, .int z6), (2, .ref wq), (3, .int v13_3)]) (fun _ => rfl) (fun z8 ls ez8 mz8 iz8 hl => ?_)
        refine lv_goto (tgt := 13) hx hb dX6_weightTotal_33 (by decide) ?_
        exact ih13 ls f_13 H locs z7 v13_3 z8 (show 8 - z8.toInt < _ by omega) (lv_cons hl 1 rfl (lv_cons hl 3 rfl (lv_cons hl 4 rfl (lv_cons hl 0 rfl (lv_nil hl))))) h t_13 o_13 (show iv z7 0 72 from by omega) iv13_3 (iv_w iz8 (by decide)) k13_u0_0 k13_wq_R (show z7.toInt = psm ww (Int.toNat (z8.toInt)) from (by rw [psm_s (i := v13_4.toInt) (by omega) (by omega), ← hv13_0, ← mz6]; omega)) (show z7.toInt ≤ 9 * z8.toInt by omega)
  refine lv_iconst (v := 0) hx hb dX6_weightTotal_0 (by decide) ?_
  refine lv_istore_n (lv' := [(1, .int 0), (0, .ref u0)]) hx hb dX6_weightTotal_1 rfl hl (by decide) rfl (fun ls hl => ?_)
  refine lv_aload_n hx hb dX6_weightTotal_2 rfl (lv_at hl 1 rfl) ?_
  refine t_getfd C h t hu0 (by decide) wf_1 (v := .ref wq) k_u0_0 fl_X6_15 dX6_weightTotal_3 ?_
  refine lv_astore_n (lv' := [(2, .ref wq), (1, .int 0), (0, .ref u0)]) hx hb dX6_weightTotal_6 rfl hl (by decide) rfl (fun ls hl => ?_)
  refine lv_aload_n hx hb dX6_weightTotal_7 rfl (lv_at hl 0 rfl) ?_
  refine t_alen C h t hwq (by decide) (n := 8) (v := 8) (fun e_ h_ => Or.inl ⟨_, _, wf_2 e_ h_⟩) rfl dX6_weightTotal_8 ?_
  refine lv_istore_n (lv' := [(3, .int 8), (2, .ref wq), (1, .int 0), (0, .ref u0)]) hx hb dX6_weightTotal_9 rfl hl (by decide) rfl (fun ls hl => ?_)
  refine lv_iconst (v := 0) hx hb dX6_weightTotal_10 (by decide) ?_
  refine lv_istore (lv' := [(4, .int 0), (3, .int 8), (2, .ref wq), (1, .int 0), (0, .ref u0)]) hx hb dX6_weightTotal_11 hl (by decide) rfl (fun ls hl => ?_)
  exact L13 9 ls f s.heap [] 0 8 0 (by decide) (lv_cons hl 3 rfl (lv_cons hl 2 rfl (lv_cons hl 1 rfl (lv_cons hl 0 rfl (lv_nil hl))))) h t o ⟨by decide, by decide⟩ ⟨by decide, by decide⟩ ⟨by decide, by decide⟩ k_u0_0 hRwq (show 0 = psm ww (Int.toNat (0)) from rfl) (show 0 ≤ 9 * 0 by omega)
abbrev rm_s_X10_scaleX : Room := { frames := 3, cells := 3, slots := 20, locals := 64 }
set_option maxRecDepth 100000 in
set_option maxHeartbeats 4000000 in
theorem s_X10_scaleX (l : Launch) (D : va_G) (G : Nat → Nat) (b0 : Nat) (τ : Nat → Nat) (f : hM) (t : TI G 9 τ f) (u0 : Nat) (hu0 : τ u0 = 10) (u1 : Int32) (hu1 : iv u1 (-2147483648) 2147483647) (u2 : Int32) (hu2 : iv u2 (-2147483648) 2147483647) (sq : Nat) (hsq : τ sq = 18) (bo : Nat) (hbo : τ bo = 12) (k_u0_1 : atp f u0 (fd 1 (.ref bo))) (fq : Nat) (hfq : τ fq = 50) (k_u0_7 : atp f u0 (fd 7 (.ref fq))) (ac : Int32) (hac : iv ac 0 12) (k_bo_0 : atp f bo (fd 0 (.int ac))) (nx : Int32) (hnx : iv nx 0 11) (k_bo_5 : atp f bo (fd 5 (.int nx))) (sn : Nat) (hsn : τ sn = 15) (k_bo_1 : atp f bo (fd 1 (.ref sn))) (bf : Nat) (hbf : τ bf = 17) (k_bo_3 : atp f bo (fd 3 (.ref bf))) (qn : Nat) (hqn : τ qn = 4) (k_sn_0 : atp f sn (fd 0 (.ref qn))) (sz : Int32) (hsz : iv sz 0 8) (k_sn_1 : atp f sn (fd 1 (.int sz))) (qa : Nat) (hqa : τ qa = 4) (k_sq_0 : atp f sq (fd 0 (.ref qa))) (sa : Int32) (hsa : iv sa 0 8) (k_sq_1 : atp f sq (fd 1 (.int sa))) (rn : Nat → Option Nat) (hRqn : atp f qn (eqr G 4 8 rn)) (rf : Nat → Option Nat) (hRbf : atp f bf (eqr G 3 12 rf)) (ra : Nat → Option Nat) (hRqa : atp f qa (eqr G 4 8 ra)) (rq : Nat → Int32) (hRfq : atp f fq (eqc (.inl (G 1, 4, .inl rq)))) (esq : rf nx.toInt.toNat = some sq) (hab : qn ≠ qa) (bk : Nat → Int32) (hb9 : ∀ k : Nat, k < 80 → iv (bk k) 0 9) (hSO : ∀ j : Nat, (j : Int) < sz.toInt → ∃ q, rn j = some q ∧ SO G τ f q (fun k => bk (10 * j + k)))  : mI l yX10_scale cX10_scale 6 (.int) rm_s_X10_scaleX D G b0 f [.ref u0, .int u1, .int u2] (fun r f1 => (∃ τ1, Ex τ τ1 ∧ iv r (-1) 72 ∧ TI G 9 τ1 f1 ∧ Fr [0, 4, 12, 18, 50, 54, 12001, 12006, 18002] τ f f1 ∧ (((((0 ≤ u1.toInt ∧ u1.toInt < sz.toInt) ∧ (2 ≤ u2.toInt ∧ u2.toInt ≤ 9) ∧ (∀ s : Nat, s < 8 → (bk (10 * u1.toInt + s).toNat * u2).toInt ≤ 9))) → r.toInt = wsm (sc bk u1.toInt u2) u1.toInt 8) ∧ (¬ (((0 ≤ u1.toInt ∧ u1.toInt < sz.toInt) ∧ (2 ≤ u2.toInt ∧ u2.toInt ≤ 9) ∧ (∀ s : Nat, s < 8 → (bk (10 * u1.toInt + s).toNat * u2).toInt ≤ 9))) → r.toInt = -1)) ∧ (∃ nx1 : Int32, atp f1 bo (fd 5 (.int nx1)) ∧ iv nx1 0 11 ∧ ((((0 ≤ u1.toInt ∧ u1.toInt < sz.toInt) ∧ (2 ≤ u2.toInt ∧ u2.toInt ≤ 9) ∧ (∀ s : Nat, s < 8 → (bk (10 * u1.toInt + s).toNat * u2).toInt ≤ 9))) → nx1.toInt = (nx.toInt + 1) % 12) ∧ (¬ (((0 ≤ u1.toInt ∧ u1.toInt < sz.toInt) ∧ (2 ≤ u2.toInt ∧ u2.toInt ≤ 9) ∧ (∀ s : Nat, s < 8 → (bk (10 * u1.toInt + s).toNat * u2).toInt ≤ 9))) → nx1.toInt = nx.toInt)) ∧ (∃ ac1 : Int32, atp f1 bo (fd 0 (.int ac1)) ∧ iv ac1 0 12 ∧ ((((0 ≤ u1.toInt ∧ u1.toInt < sz.toInt) ∧ (2 ≤ u2.toInt ∧ u2.toInt ≤ 9) ∧ (∀ s : Nat, s < 8 → (bk (10 * u1.toInt + s).toNat * u2).toInt ≤ 9))) → ((ac.toInt = 12 → ac1.toInt = 12) ∧ (ac.toInt ≠ 12 → ac1.toInt = ac.toInt + 1))) ∧ (¬ (((0 ≤ u1.toInt ∧ u1.toInt < sz.toInt) ∧ (2 ≤ u2.toInt ∧ u2.toInt ≤ 9) ∧ (∀ s : Nat, s < 8 → (bk (10 * u1.toInt + s).toNat * u2).toInt ≤ 9))) → ac1.toInt = ac.toInt)) ∧ (∃ szn : Int32, atp f1 sn (fd 1 (.int szn)) ∧ iv szn 0 8 ∧ ((((0 ≤ u1.toInt ∧ u1.toInt < sz.toInt) ∧ (2 ≤ u2.toInt ∧ u2.toInt ≤ 9) ∧ (∀ s : Nat, s < 8 → (bk (10 * u1.toInt + s).toNat * u2).toInt ≤ 9))) → szn.toInt = sz.toInt) ∧ (¬ (((0 ≤ u1.toInt ∧ u1.toInt < sz.toInt) ∧ (2 ≤ u2.toInt ∧ u2.toInt ≤ 9) ∧ (∀ s : Nat, s < 8 → (bk (10 * u1.toInt + s).toNat * u2).toInt ≤ 9))) → szn.toInt = sz.toInt)) ∧ (∃ sza : Int32, atp f1 sq (fd 1 (.int sza)) ∧ iv sza 0 8 ∧ ((((0 ≤ u1.toInt ∧ u1.toInt < sz.toInt) ∧ (2 ≤ u2.toInt ∧ u2.toInt ≤ 9) ∧ (∀ s : Nat, s < 8 → (bk (10 * u1.toInt + s).toNat * u2).toInt ≤ 9))) → sza.toInt = sz.toInt) ∧ (¬ (((0 ≤ u1.toInt ∧ u1.toInt < sz.toInt) ∧ (2 ≤ u2.toInt ∧ u2.toInt ≤ 9) ∧ (∀ s : Nat, s < 8 → (bk (10 * u1.toInt + s).toNat * u2).toInt ≤ 9))) → sza.toInt = sa.toInt)) ∧ (∃ ra1 : Nat → Option Nat, atp f1 qa (eqr G 4 8 ra1) ∧ (((((0 ≤ u1.toInt ∧ u1.toInt < sz.toInt) ∧ (2 ≤ u2.toInt ∧ u2.toInt ≤ 9) ∧ (∀ s : Nat, s < 8 → (bk (10 * u1.toInt + s).toNat * u2).toInt ≤ 9))) → ∀ k : Nat, k < 8 → ra1 k = rn k) ∧ (¬ (((0 ≤ u1.toInt ∧ u1.toInt < sz.toInt) ∧ (2 ≤ u2.toInt ∧ u2.toInt ≤ 9) ∧ (∀ s : Nat, s < 8 → (bk (10 * u1.toInt + s).toNat * u2).toInt ≤ 9))) → ra1 = ra))) ∧ (∃ rn1 : Nat → Option Nat, atp f1 qn (eqr G 4 8 rn1) ∧ (((((0 ≤ u1.toInt ∧ u1.toInt < sz.toInt) ∧ (2 ≤ u2.toInt ∧ u2.toInt ≤ 9) ∧ (∀ s : Nat, s < 8 → (bk (10 * u1.toInt + s).toNat * u2).toInt ≤ 9))) → ∃ z, SO G τ1 f1 z (fun k => sc bk u1.toInt u2 (10 * u1.toInt.toNat + k)) ∧ ∀ k : Nat, rn1 k = if k = u1.toInt.toNat then some z else rn k) ∧ (¬ (((0 ≤ u1.toInt ∧ u1.toInt < sz.toInt) ∧ (2 ≤ u2.toInt ∧ u2.toInt ≤ 9) ∧ (∀ s : Nat, s < 8 → (bk (10 * u1.toInt + s).toNat * u2).toInt ≤ 9))) → rn1 = rn))) ∧ (∃ rq1 : Nat → Int32, atp f1 fq (eqc (.inl (G 1, 4, .inl rq1))) ∧ (∀ k : Nat, k < 4 → rq1 k = if (k : Int) = (if ¬ (0 ≤ u1.toInt ∧ u1.toInt < sz.toInt) then 0 else (if ¬ (2 ≤ u2.toInt ∧ u2.toInt ≤ 9) then 1 else (if ¬ (∀ s : Nat, s < 8 → (bk (10 * u1.toInt + s).toNat * u2).toInt ≤ 9) then 1 else -1))) then rq k + 1 else rq k)) ∧ FX [qa, sq, bo, qn, sn, fq] f f1)) := by
  refine met2 (own := RX10) (by decide) rfl (Nat.le_of_ble_eq_true rfl) ?_
  intro p e s m args below meth c ls Q hQ C hr hini hl h
  have hl : lv_has ls 6 [(0, .ref u0), (1, .int u1), (2, .int u2)] := hl
  obtain ⟨hx, hb, hml, hown, hts, hE0, hlk⟩ := id C
  have o := Fr.rf [0, 4, 12, 18, 50, 54, 12001, 12006, 18002] τ f
  have hfx := FX.rf [qa, sq, bo, qn, sn, fq] f
  refine lv_aload_n hx hb dX10_scale_0 rfl (lv_at hl 0 rfl) ?_
  refine t_getfd C h t hu0 (by decide) wf_10 (v := .ref bo) k_u0_1 fl_X10_19 dX10_scale_1 ?_
  refine lv_iload_n hx hb dX10_scale_4 rfl (lv_at hl 1 rfl) ?_
  obtain ⟨_, ra_1⟩ := t_rec t hbo (by decide) wf_12
  refine k_q (r_V C h hl (As := [.int u1]) (rest := []) (s_X0_findX l D G b0 τ f t bo hbo u1 hu1 sn hsn k_bo_1 qn hqn k_sn_0 sz hsz k_sn_1 rn hRqn) ra_1 (Cn := RX0) (T := TX0) (N := 6) rfl rfl mk_X0_find w_594 w_595 w_596 w_597 ⟨Nat.le_of_ble_eq_true rfl, Nat.le_of_ble_eq_true rfl⟩ rfl (Nat.le_of_ble_eq_true rfl) ⟨Nat.le_of_ble_eq_true rfl, Nat.le_of_ble_eq_true rfl⟩ rfl dX10_scale_5) h (fun ra_2 fa_3 H locs pa_4 h => ?_)
  obtain ⟨qra_2, tfa_3, ogfa_3, x0ra_2⟩ := pa_4
  have egfa_3 := Fr.nil2 ogfa_3
  subst egfa_3
  have tra_2 := qra_2
  refine lv_astore_nO (lv' := [(3, va_rf ra_2), (0, .ref u0), (1, .int u1), (2, .int u2)]) hx hb dX10_scale_8 rfl hl (by decide) rfl (fun ls hl => ?_)
  refine lv_aload_nO hx hb dX10_scale_9 rfl (lv_at hl 0 rfl) ?_
  rcases va_rfc ra_2 with eqa_6 | ⟨qa_6, eqa_6⟩
  · subst eqa_6
    have nkra_2 : ¬ (0 ≤ u1.toInt ∧ u1.toInt < sz.toInt) := fun z_ => by rw [if_pos z_] at x0ra_2; obtain ⟨q_, h_, -⟩ := hSO u1.toInt.toNat (by omega); rw [h_] at x0ra_2; cases x0ra_2
    have hl : lv_has ls 6 [(3, .null), (0, .ref u0), (1, .int u1), (2, .int u2)] := hl
    show W _ _ _ _ _ _ _ _ _ _ _ _ _ _ _ (F0 m 10 ls [.null])
    refine lv_ifnonnullN hx hb dX10_scale_10 ?_
    refine lv_aload_n hx hb dX10_scale_13 rfl (lv_at hl 1 rfl) ?_
    refine lv_iconst (v := 0) hx hb dX10_scale_14 (by decide) ?_
    obtain ⟨_, ra_7⟩ := t_rec t hu0 (by decide) wf_10
    refine k_i (r_V C h hl (As := [.int 0]) (rest := []) (s_X10_refuseX l D G b0 τ f t u0 hu0 0 (iv_w (iv_k (x := 0) (k := 0) rfl) (by decide)) fq hfq k_u0_7 rq hRfq) ra_7 (Cn := RX10) (T := TX10) (N := 10) rfl rfl mk_X10_refuse w_519 w_521 w_8 w_522 ⟨Nat.le_of_ble_eq_true rfl, Nat.le_of_ble_eq_true rfl⟩ rfl (Nat.le_of_ble_eq_true rfl) ⟨Nat.le_of_ble_eq_true rfl, Nat.le_of_ble_eq_true rfl⟩ rfl dX10_scale_15) h (fun ra_8 fa_9 H locs pa_10 h => ?_)
    obtain ⟨ira_8, tfa_9, ogfa_9, ⟨rq1_fa_9, kRfqfa_9, pRfqfa_9⟩, fxfa_9⟩ := pa_10
    have ofa_9 : Fr [0, 4, 12, 18, 50, 54, 12001, 12006, 18002] τ f fa_9 := Fr.tr o ogfa_9 (by decide) (by decide)
    have ka_11 := atp.fr k_u0_1 ogfa_9 hu0 (by decide)
    have ka_12 := atp.fr k_u0_7 ogfa_9 hu0 (by decide)
    have ka_13 := atp.fr k_bo_0 ogfa_9 hbo (by decide)
    have ka_14 := atp.fr k_bo_5 ogfa_9 hbo (by decide)
    have ka_15 := atp.fr k_bo_1 ogfa_9 hbo (by decide)
    have ka_16 := atp.fr k_bo_3 ogfa_9 hbo (by decide)
    have ka_17 := atp.fr k_sn_0 ogfa_9 hsn (by decide)
    have ka_18 := atp.fr k_sn_1 ogfa_9 hsn (by decide)
    have ka_19 := atp.fr k_sq_0 ogfa_9 hsq (by decide)
    have ka_20 := atp.fr k_sq_1 ogfa_9 hsq (by decide)
    have ka_21 := atp.fr hRqn ogfa_9 hqn (by decide)
    have ka_22 := atp.fr hRbf ogfa_9 hbf (by decide)
    have ka_23 := atp.fr hRqa ogfa_9 hqa (by decide)
    have ka_24 := FX.tr hfx fxfa_9 (by simp)
    exact u_iret C h hr hQ (⟨τ, (Ex.rf τ), (iv_w ira_8 (by decide)), tfa_9, ofa_9, ⟨fun z_ => absurd z_ (by omega), fun _ => (by omega)⟩, ⟨nx, ka_14, hnx, ⟨fun z_ => absurd z_ (by omega), fun _ => rfl⟩⟩, ⟨ac, ka_13, hac, ⟨fun z_ => absurd z_ (by omega), fun _ => rfl⟩⟩, ⟨sz, ka_18, hsz, ⟨fun z_ => absurd z_ (by omega), fun _ => rfl⟩⟩, ⟨sa, ka_20, hsa, ⟨fun z_ => absurd z_ (by omega), fun _ => rfl⟩⟩, ⟨ra, ka_23, ⟨fun z_ => absurd z_ (by omega), fun _ => rfl⟩⟩, ⟨rn, ka_21, ⟨fun z_ => absurd z_ (by omega), fun _ => rfl⟩⟩, ⟨rq1_fa_9, kRfqfa_9, (bump_eq (c := 0) pRfqfa_9 rfl (by decide) (by rw [if_pos (by omega)]))⟩, ka_24⟩) (Nat.le_of_ble_eq_true rfl) (Nat.le_of_ble_eq_true rfl) dX10_scale_18
  · subst eqa_6
    have tqa_6 : τ qa_6 = 1 := tra_2 _ rfl
    have okra_2 : (0 ≤ u1.toInt ∧ u1.toInt < sz.toInt) := by
      by_cases z_ : (0 ≤ u1.toInt ∧ u1.toInt < sz.toInt)
      · exact z_
      · rw [if_neg z_] at x0ra_2; cases x0ra_2
    rw [if_pos okra_2] at x0ra_2
    obtain ⟨q_, h_, -, wqS1, wwS1, twS1, kwS1, krS1, hwS1, kxS1, kyS1⟩ := hSO u1.toInt.toNat (by omega)
    rw [← x0ra_2] at h_; cases h_
    have hwS1 : ∀ k : Nat, k < 8 → wwS1 k = bk (10 * u1.toInt.toNat + k) := hwS1
    have kxS1 : atp f qa_6 (fd 1 (.int (bk (10 * u1.toInt.toNat + 8)))) := kxS1
    have kyS1 : atp f qa_6 (fd 2 (.int (bk (10 * u1.toInt.toNat + 9)))) := kyS1
    obtain ⟨sxS1, esxS1, isxS1⟩ : ∃ z_ : Int32, z_ = bk (10 * u1.toInt.toNat + 8) ∧ iv z_ 0 9 := ⟨_, rfl, hb9 _ (by omega)⟩
    rw [← esxS1] at kxS1
    obtain ⟨syS1, esyS1, isyS1⟩ : ∃ z_ : Int32, z_ = bk (10 * u1.toInt.toNat + 9) ∧ iv z_ 0 9 := ⟨_, rfl, hb9 _ (by omega)⟩
    rw [← esyS1] at kyS1
    have hl : lv_has ls 6 [(3, .ref qa_6), (0, .ref u0), (1, .int u1), (2, .int u2)] := hl
    show W _ _ _ _ _ _ _ _ _ _ _ _ _ _ _ (F0 m 10 ls [.ref qa_6])
    refine lv_ifnonnull (tgt := 19) hx hb dX10_scale_10 (by decide) ?_
    refine lv_iload_n hx hb dX10_scale_19 rfl (lv_at hl 3 rfl) ?_
    refine lv_iconst (v := 2) hx hb dX10_scale_20 (by decide) ?_
    refine lv_bipush (v := 9) hx hb dX10_scale_21 (by decide) ?_
    refine k_i (r_S C h hl (As := [.int u2, .int 2, .int 9]) (rest := []) (s_X10_within l D G b0 τ f t u2 hu2 2 (iv_w (iv_k (x := 2) (k := 2) rfl) (by decide)) 9 (iv_w (iv_k (x := 9) (k := 9) rfl) (by decide))) mk_X10_within w_425 w_426 w_427 ⟨Nat.le_of_ble_eq_true rfl, Nat.le_of_ble_eq_true rfl⟩ rfl (Nat.le_of_ble_eq_true rfl) ⟨Nat.le_of_ble_eq_true rfl, Nat.le_of_ble_eq_true rfl⟩ rfl dX10_scale_23) h (fun ra_7 fa_8 H locs pa_9 h => ?_)
    have na_10 : (2 : Int32).toInt = 2 := rfl
    have na_11 : (9 : Int32).toInt = 9 := rfl
    obtain ⟨ira_7, tfa_8, ogfa_8, cnra_7, czra_7⟩ := pa_9
    have egfa_8 := Fr.nil2 ogfa_8
    subst egfa_8
    refine lv_if_ne (tgt := 35) hx hb dX10_scale_26 (by decide) (fun ca_12 => ?_) (fun ca_12 => ?_)
    · have ca_13 : ra_7.toInt ≠ 0 := fun z_ => ca_12 (Int32.toInt_inj.mp z_)
      have ia_14 : iv ra_7 1 1 := iv_Nl ca_13 ira_7 (by decide)
      obtain ⟨ia_15, ia_16⟩ := cnra_7 ca_13
      have ia_17 : iv u2 2 9 := ⟨by omega, by omega⟩
      refine lv_bipush (v := 8) hx hb dX10_scale_35 (by decide) ?_
      refine q_newa C h (atype := .int) 1 rfl rfl rfl w_161 (a0 := (8, .inl (fun _ => 0))) (fun _ => rfl) (by decide) (N' := 8) (by decide) (Nat.le_of_ble_eq_true rfl) (Nat.le_of_ble_eq_true rfl) (Nat.le_of_ble_eq_true rfl) dX10_scale_37 (fun nw H nnw h => ?_)
      have nfnw := nfr hfx nnw
      have tfa_19 := TI.new (tg := 54) (e := (.inl (G 1, 8, .inl (fun _ => 0)))) t nnw (fw_54 _ ⟨_, rfl, fun j => ⟨by decide, by decide⟩⟩)
      have esnw : Ex τ (tu τ nw 54) := TI.newEx t nnw
      have ozfa_19 : Fr [0, 4, 12, 18, 50, 54, 12001, 12006, 18002] τ f (hu f nw (.inl (G 1, 8, .inl (fun _ => 0)))) := Fr.new o nnw (TI.zero t nnw) (by decide)
      have tqnw : tu τ nw 54 nw = 54 := tu_self _ _ _
      generalize tu τ nw 54 = τnw at tfa_19 esnw tqnw
      have ka_20 := atp.new k_u0_1 nnw (e := (.inl (G 1, 8, .inl (fun _ => 0))))
      have ka_21 := atp.new k_u0_7 nnw (e := (.inl (G 1, 8, .inl (fun _ => 0))))
      have ka_22 := atp.new k_bo_0 nnw (e := (.inl (G 1, 8, .inl (fun _ => 0))))
      have ka_23 := atp.new k_bo_5 nnw (e := (.inl (G 1, 8, .inl (fun _ => 0))))
      have ka_24 := atp.new k_bo_1 nnw (e := (.inl (G 1, 8, .inl (fun _ => 0))))
      have ka_25 := atp.new k_bo_3 nnw (e := (.inl (G 1, 8, .inl (fun _ => 0))))
      have ka_26 := atp.new k_sn_0 nnw (e := (.inl (G 1, 8, .inl (fun _ => 0))))
      have ka_27 := atp.new k_sn_1 nnw (e := (.inl (G 1, 8, .inl (fun _ => 0))))
      have ka_28 := atp.new k_sq_0 nnw (e := (.inl (G 1, 8, .inl (fun _ => 0))))
      have ka_29 := atp.new k_sq_1 nnw (e := (.inl (G 1, 8, .inl (fun _ => 0))))
      have ka_30 := atp.new hRqn nnw (e := (.inl (G 1, 8, .inl (fun _ => 0))))
      have ka_31 := atp.new hRbf nnw (e := (.inl (G 1, 8, .inl (fun _ => 0))))
      have ka_32 := atp.new hRqa nnw (e := (.inl (G 1, 8, .inl (fun _ => 0))))
      have ka_33 := atp.new hRfq nnw (e := (.inl (G 1, 8, .inl (fun _ => 0))))
      have ka_34 := FX.new hfx nnw (e := (.inl (G 1, 8, .inl (fun _ => 0))))
      have ka_35 := atp.new kwS1 nnw (e := (.inl (G 1, 8, .inl (fun _ => 0))))
      have ka_36 := atp.new krS1 nnw (e := (.inl (G 1, 8, .inl (fun _ => 0))))
      have ka_37 := atp.new kxS1 nnw (e := (.inl (G 1, 8, .inl (fun _ => 0))))
      have ka_38 := atp.new kyS1 nnw (e := (.inl (G 1, 8, .inl (fun _ => 0))))
      have kRnw : atp (hu f nw (.inl (G 1, 8, .inl (fun _ => 0)))) nw (eqc (.inl (G 1, 8, .inl (fun _ => 0)))) := ⟨_, hu_self _ _ _, rfl⟩
      generalize hu f nw (.inl (G 1, 8, .inl (fun _ => 0))) = fa_19 at h tfa_19 ozfa_19 ka_20 ka_21 ka_22 ka_23 ka_24 ka_25 ka_26 ka_27 ka_28 ka_29 ka_30 ka_31 ka_32 ka_33 ka_34 ka_35 ka_36 ka_37 ka_38 kRnw
      have Ofa_19 : Fr [0, 4, 12, 18, 50, 54, 12001, 12006, 18002] τ f fa_19 := ozfa_19
      have xfa_19 : Ex τ τnw := esnw
      have ha_39 : τnw u0 = 10 := Ex.at esnw hu0 (by decide)
      have ha_40 : τnw qa_6 = 1 := Ex.at esnw tqa_6 (by decide)
      have ha_41 : τnw bo = 12 := Ex.at esnw hbo (by decide)
      have ha_42 : τnw fq = 50 := Ex.at esnw hfq (by decide)
      have ha_43 : τnw sn = 15 := Ex.at esnw hsn (by decide)
      have ha_44 : τnw bf = 17 := Ex.at esnw hbf (by decide)
      have ha_45 : τnw qn = 4 := Ex.at esnw hqn (by decide)
      have ha_46 : τnw qa = 4 := Ex.at esnw hqa (by decide)
      have ha_47 : τnw wqS1 = 2 := Ex.at esnw twS1 (by decide)
      have ha_48 : τnw sq = 18 := Ex.at esnw hsq (by decide)
      have ofa_19z := Fr.rf [0, 4, 12, 18, 50, 54, 12001, 12006, 18002] τnw fa_19
      refine lv_astore (lv' := [(4, .ref nw), (3, .ref qa_6), (0, .ref u0), (1, .int u1), (2, .int u2)]) hx hb dX10_scale_39 hl (by decide) rfl (fun ls hl => ?_)
      refine lv_iconst (v := 0) hx hb dX10_scale_41 (by decide) ?_
      refine lv_istore (lv' := [(5, .int 0), (4, .ref nw), (3, .ref qa_6), (0, .ref u0), (1, .int u1), (2, .int u2)]) hx hb dX10_scale_42 hl (by decide) rfl (fun ls hl => ?_)
      have L44 : ∀ (n44 : Nat) (ls : Array Slot) (f_44 : hM) (H : Heap) (locs : List Loc) (v44_5 : Int32) (g44_nw_R : Nat → Int32), 8 - v44_5.toInt < (n44 : Int) → lv_has ls 6 [(0, .ref u0), (1, .int u1), (2, .int u2), (3, .ref qa_6), (4, .ref nw), (5, .int v44_5)] → hw D b0 s.heap f_44 H locs → TI G 9 τnw f_44 → Fr [0, 4, 12, 18, 50, 54, 12001, 12006, 18002] τnw fa_19 f_44 → iv u1 (-2147483648) 2147483647 → iv u2 2 9 → iv v44_5 0 8 → iv ac 0 12 → iv nx 0 11 → iv sz 0 8 → iv sa 0 8 → iv sxS1 0 9 → iv syS1 0 9 → atp f_44 u0 (fd 1 (.ref bo)) → atp f_44 u0 (fd 7 (.ref fq)) → atp f_44 bo (fd 0 (.int ac)) → atp f_44 bo (fd 5 (.int nx)) → atp f_44 bo (fd 1 (.ref sn)) → atp f_44 bo (fd 3 (.ref bf)) → atp f_44 sn (fd 0 (.ref qn)) → atp f_44 sn (fd 1 (.int sz)) → atp f_44 sq (fd 0 (.ref qa)) → atp f_44 sq (fd 1 (.int sa)) → atp f_44 qn (eqr G 4 8 rn) → atp f_44 bf (eqr G 3 12 rf) → atp f_44 qa (eqr G 4 8 ra) → atp f_44 fq (eqc (.inl (G 1, 4, .inl rq))) → FX [qa, sq, bo, qn, sn, fq] f f_44 → atp f_44 qa_6 (fd 0 (.ref wqS1)) → atp f_44 wqS1 (eqc (.inl (G 1, 8, .inl wwS1))) → atp f_44 qa_6 (fd 1 (.int sxS1)) → atp f_44 qa_6 (fd 2 (.int syS1)) → atp f_44 nw (eqc (.inl (G 1, 8, .inl g44_nw_R))) → (∀ k : Nat, g44_nw_R k = if (k : Int) < v44_5.toInt then wwS1 k * u2 else 0) → W p l e rm_s_X10_scaleX s m args below meth c H locs 1 8 Q (F0 m 44 ls []) := by
        intro n44
        induction n44 with
        | zero => intro ls f_44 H locs v44_5 g44_nw_R hm44 hl h t_44 o_44 jv44_1 jv44_2 iv44_5 jg44_bo_0 jg44_bo_5 jg44_sn_1 jg44_sq_1 jg44_qa_6_1 jg44_qa_6_2 k44_u0_1 k44_u0_7 k44_bo_0 k44_bo_5 k44_bo_1 k44_bo_3 k44_sn_0 k44_sn_1 k44_sq_0 k44_sq_1 k44_qn_R k44_bf_R k44_qa_R k44_fq_R k44_fx_FX k44_qa_6_0 k44_wqS1_R k44_qa_6_1 k44_qa_6_2 k44_nw_R hv44_0; exact absurd hm44 (by omega)
        | succ n44 ih44 =>
          intro ls f_44 H locs v44_5 g44_nw_R hm44 hl h t_44 o_44 jv44_1 jv44_2 iv44_5 jg44_bo_0 jg44_bo_5 jg44_sn_1 jg44_sq_1 jg44_qa_6_1 jg44_qa_6_2 k44_u0_1 k44_u0_7 k44_bo_0 k44_bo_5 k44_bo_1 k44_bo_3 k44_sn_0 k44_sn_1 k44_sq_0 k44_sq_1 k44_qn_R k44_bf_R k44_qa_R k44_fq_R k44_fx_FX k44_qa_6_0 k44_wqS1_R k44_qa_6_1 k44_qa_6_2 k44_nw_R hv44_0
          refine lv_iload hx hb dX10_scale_44 (lv_at hl 5 rfl) ?_
          refine lv_bipush (v := 8) hx hb dX10_scale_46 (by decide) ?_
          refine lv_icmp_ge (tgt := 71) hx hb dX10_scale_48 (by decide) (fun cab44_1 => ?_) (fun cab44_1 => ?_)
          · have cab44_2 : 8 ≤ v44_5.toInt := Int32.le_iff_toInt_le.mp cab44_1
            have iab44_3 : iv v44_5 8 8 := iv_Er cab44_2 (iv_k (x := 8) (k := 8) rfl) iv44_5 (by decide)
            refine lv_aload hx hb dX10_scale_71 (lv_at hl 4 rfl) ?_
            refine k_i (r_S C h hl (As := [.ref nw]) (rest := []) (s_X10_areDigitsX l D G b0 τnw f_44 t_44 nw tqnw g44_nw_R k44_nw_R) mk_X10_areDigits w_625 w_626 w_627 ⟨Nat.le_of_ble_eq_true rfl, Nat.le_of_ble_eq_true rfl⟩ rfl (Nat.le_of_ble_eq_true rfl) ⟨Nat.le_of_ble_eq_true rfl, Nat.le_of_ble_eq_true rfl⟩ rfl dX10_scale_73) h (fun rab44_4 fab44_5 H locs pab44_6 h => ?_)
            obtain ⟨irab44_4, tfab44_5, ogfab44_5, cnrab44_4, czrab44_4⟩ := pab44_6
            have egfab44_5 := Fr.nil2 ogfab44_5
            subst egfab44_5
            refine lv_if_ne (tgt := 85) hx hb dX10_scale_76 (by decide) (fun cab44_7 => ?_) (fun cab44_7 => ?_)
            · have cab44_8 : rab44_4.toInt ≠ 0 := fun z_ => cab44_7 (Int32.toInt_inj.mp z_)
              have iab44_9 : iv rab44_4 1 1 := iv_Nl cab44_8 irab44_4 (by decide)
              have iab44_10 := cnrab44_4 cab44_8
              refine q_new C h nw_X10_121 (Nat.le_of_ble_eq_true rfl) (Nat.le_of_ble_eq_true rfl) dX10_scale_85 (fun qab44_11 H nqab44_11 h => ?_)
              have tzqab44_11 := TI.zero t_44 nqab44_11
              have tfab44_12 := TI.raw (e := (.inr (7, [.null, .int 0, .int 0, .null]))) t_44 tzqab44_11
              have ofab44_12 : Fr [0, 4, 12, 18, 50, 54, 12001, 12006, 18002] τnw fa_19 (hu f_44 qab44_11 (.inr (7, [.null, .int 0, .int 0, .null]))) := Fr.new o_44 nqab44_11 tzqab44_11 (by decide)
              have nfqab44_11 := nfr k44_fx_FX nqab44_11
              have rwqab44_11 : hu f_44 qab44_11 (.inr (7, [.null, .int 0, .int 0, .null])) qab44_11 = some (.inr (7, [.null, .int 0, .int 0, .null])) := hu_self _ _ _
              have kab44_13 := atp.new k44_u0_1 nqab44_11 (e := (.inr (7, [.null, .int 0, .int 0, .null])))
              have kab44_14 := atp.new k44_u0_7 nqab44_11 (e := (.inr (7, [.null, .int 0, .int 0, .null])))
              have kab44_15 := atp.new k44_bo_0 nqab44_11 (e := (.inr (7, [.null, .int 0, .int 0, .null])))
              have kab44_16 := atp.new k44_bo_5 nqab44_11 (e := (.inr (7, [.null, .int 0, .int 0, .null])))
              have kab44_17 := atp.new k44_bo_1 nqab44_11 (e := (.inr (7, [.null, .int 0, .int 0, .null])))
              have kab44_18 := atp.new k44_bo_3 nqab44_11 (e := (.inr (7, [.null, .int 0, .int 0, .null])))
              have kab44_19 := atp.new k44_sn_0 nqab44_11 (e := (.inr (7, [.null, .int 0, .int 0, .null])))
              have kab44_20 := atp.new k44_sn_1 nqab44_11 (e := (.inr (7, [.null, .int 0, .int 0, .null])))
              have kab44_21 := atp.new k44_sq_0 nqab44_11 (e := (.inr (7, [.null, .int 0, .int 0, .null])))
              have kab44_22 := atp.new k44_sq_1 nqab44_11 (e := (.inr (7, [.null, .int 0, .int 0, .null])))
              have kab44_23 := atp.new k44_qn_R nqab44_11 (e := (.inr (7, [.null, .int 0, .int 0, .null])))
              have kab44_24 := atp.new k44_bf_R nqab44_11 (e := (.inr (7, [.null, .int 0, .int 0, .null])))
              have kab44_25 := atp.new k44_qa_R nqab44_11 (e := (.inr (7, [.null, .int 0, .int 0, .null])))
              have kab44_26 := atp.new k44_fq_R nqab44_11 (e := (.inr (7, [.null, .int 0, .int 0, .null])))
              have kab44_27 := FX.new k44_fx_FX nqab44_11 (e := (.inr (7, [.null, .int 0, .int 0, .null])))
              have kab44_28 := atp.new k44_qa_6_0 nqab44_11 (e := (.inr (7, [.null, .int 0, .int 0, .null])))
              have kab44_29 := atp.new k44_wqS1_R nqab44_11 (e := (.inr (7, [.null, .int 0, .int 0, .null])))
              have kab44_30 := atp.new k44_qa_6_1 nqab44_11 (e := (.inr (7, [.null, .int 0, .int 0, .null])))
              have kab44_31 := atp.new k44_qa_6_2 nqab44_11 (e := (.inr (7, [.null, .int 0, .int 0, .null])))
              have kab44_32 := atp.new k44_nw_R nqab44_11 (e := (.inr (7, [.null, .int 0, .int 0, .null])))
              generalize hu f_44 qab44_11 (.inr (7, [.null, .int 0, .int 0, .null])) = fab44_12 at h tfab44_12 ofab44_12 rwqab44_11 kab44_13 kab44_14 kab44_15 kab44_16 kab44_17 kab44_18 kab44_19 kab44_20 kab44_21 kab44_22 kab44_23 kab44_24 kab44_25 kab44_26 kab44_27 kab44_28 kab44_29 kab44_30 kab44_31 kab44_32
              refine lv_dup hx hb dX10_scale_88 rfl ?_
              refine lv_aload hx hb dX10_scale_89 (lv_at hl 4 rfl) ?_
              refine lv_aload_n hx hb dX10_scale_91 rfl (lv_at hl 3 rfl) ?_
              refine t_getfd C h tfab44_12 ha_40 (by decide) wf_1 (v := .int sxS1) kab44_30 fl_X10_125 dX10_scale_92 ?_
              refine lv_aload_n hx hb dX10_scale_95 rfl (lv_at hl 3 rfl) ?_
              refine t_getfd C h tfab44_12 ha_40 (by decide) wf_1 (v := .int syS1) kab44_31 fl_X10_120 dX10_scale_96 ?_
              refine k_v (r_I C h hl (As := [.ref nw, .int sxS1, .int syS1]) (rest := [.ref qab44_11]) (c_StepSet l D G b0 fab44_12 qab44_11 nw g44_nw_R sxS1 syS1 rwqab44_11 (eqc_some kab44_32)) mk_X6_init rfl w_614 w_534 w_535 ⟨Nat.le_of_ble_eq_true rfl, Nat.le_of_ble_eq_true rfl⟩ rfl (Nat.le_of_ble_eq_true rfl) ⟨Nat.le_of_ble_eq_true rfl, Nat.le_of_ble_eq_true rfl⟩ rfl dX10_scale_99) h (fun fab44_33 H locs pfab44_33 h => ?_)
              obtain ⟨qab44_34, nqab44_34, efab44_33⟩ := pfab44_33
              obtain ⟨τfab44_33, exfab44_33, tfab44_33, ofab44_33, tqqab44_11, tqqab44_34, kafab44_33, kbfab44_33, kcfab44_33, kdfab44_33, hnfab44_33, kefab44_33⟩ := mkset tfab44_12 ofab44_12 (by decide) tzqab44_11 rwqab44_11 nqab44_34 efab44_33 (fun j_ => by
                  by_cases h_ : j_ < 8
                  · exact iab44_10 j_ h_
                  · rw [hv44_0 j_, if_neg (by omega)]; exact ⟨by decide, by decide⟩) jg44_qa_6_1 jg44_qa_6_2
              have kab44_35 := atp.tr kab44_13 (hnfab44_33 _ (fun z_ => by have h_ := ha_39; rw [z_, tzqab44_11] at h_; exact absurd h_ (by decide)) (atp.nn kab44_13))
              have kab44_36 := atp.tr kab44_14 (hnfab44_33 _ (fun z_ => by have h_ := ha_39; rw [z_, tzqab44_11] at h_; exact absurd h_ (by decide)) (atp.nn kab44_14))
              have kab44_37 := atp.tr kab44_15 (hnfab44_33 _ (fun z_ => by have h_ := ha_41; rw [z_, tzqab44_11] at h_; exact absurd h_ (by decide)) (atp.nn kab44_15))
              have kab44_38 := atp.tr kab44_16 (hnfab44_33 _ (fun z_ => by have h_ := ha_41; rw [z_, tzqab44_11] at h_; exact absurd h_ (by decide)) (atp.nn kab44_16))
              have kab44_39 := atp.tr kab44_17 (hnfab44_33 _ (fun z_ => by have h_ := ha_41; rw [z_, tzqab44_11] at h_; exact absurd h_ (by decide)) (atp.nn kab44_17))
              have kab44_40 := atp.tr kab44_18 (hnfab44_33 _ (fun z_ => by have h_ := ha_41; rw [z_, tzqab44_11] at h_; exact absurd h_ (by decide)) (atp.nn kab44_18))
              have kab44_41 := atp.tr kab44_19 (hnfab44_33 _ (fun z_ => by have h_ := ha_43; rw [z_, tzqab44_11] at h_; exact absurd h_ (by decide)) (atp.nn kab44_19))
              have kab44_42 := atp.tr kab44_20 (hnfab44_33 _ (fun z_ => by have h_ := ha_43; rw [z_, tzqab44_11] at h_; exact absurd h_ (by decide)) (atp.nn kab44_20))
              have kab44_43 := atp.tr kab44_21 (hnfab44_33 _ (fun z_ => by have h_ := ha_48; rw [z_, tzqab44_11] at h_; exact absurd h_ (by decide)) (atp.nn kab44_21))
              have kab44_44 := atp.tr kab44_22 (hnfab44_33 _ (fun z_ => by have h_ := ha_48; rw [z_, tzqab44_11] at h_; exact absurd h_ (by decide)) (atp.nn kab44_22))
              have kab44_45 := atp.tr kab44_23 (hnfab44_33 _ (fun z_ => by have h_ := ha_45; rw [z_, tzqab44_11] at h_; exact absurd h_ (by decide)) (atp.nn kab44_23))
              have kab44_46 := atp.tr kab44_24 (hnfab44_33 _ (fun z_ => by have h_ := ha_44; rw [z_, tzqab44_11] at h_; exact absurd h_ (by decide)) (atp.nn kab44_24))
              have kab44_47 := atp.tr kab44_25 (hnfab44_33 _ (fun z_ => by have h_ := ha_46; rw [z_, tzqab44_11] at h_; exact absurd h_ (by decide)) (atp.nn kab44_25))
              have kab44_48 := atp.tr kab44_26 (hnfab44_33 _ (fun z_ => by have h_ := ha_42; rw [z_, tzqab44_11] at h_; exact absurd h_ (by decide)) (atp.nn kab44_26))
              have kab44_49 : FX [qa, sq, bo, qn, sn, fq] f fab44_33 := fun q_ hq_ h0_ => by have e_ := kab44_27 q_ hq_ h0_; rw [hnfab44_33 q_ (nfqab44_11 q_ hq_ h0_) (by rw [e_]; exact h0_), e_]
              have kab44_50 := atp.tr kab44_28 (hnfab44_33 _ (fun z_ => by have h_ := ha_40; rw [z_, tzqab44_11] at h_; exact absurd h_ (by decide)) (atp.nn kab44_28))
              have kab44_51 := atp.tr kab44_29 (hnfab44_33 _ (fun z_ => by have h_ := ha_47; rw [z_, tzqab44_11] at h_; exact absurd h_ (by decide)) (atp.nn kab44_29))
              have kab44_52 := atp.tr kab44_30 (hnfab44_33 _ (fun z_ => by have h_ := ha_40; rw [z_, tzqab44_11] at h_; exact absurd h_ (by decide)) (atp.nn kab44_30))
              have kab44_53 := atp.tr kab44_31 (hnfab44_33 _ (fun z_ => by have h_ := ha_40; rw [z_, tzqab44_11] at h_; exact absurd h_ (by decide)) (atp.nn kab44_31))
              have kab44_54 := atp.tr kab44_32 (hnfab44_33 _ (fun z_ => by have h_ := tqnw; rw [z_, tzqab44_11] at h_; exact absurd h_ (by decide)) (atp.nn kab44_32))
              have Ofab44_33 : Fr [0, 4, 12, 18, 50, 54, 12001, 12006, 18002] τ f fab44_33 := Fr.tr Ofa_19 (Fr.cv xfa_19 ofab44_33 (by decide) (fun _ h_ => h_)) (fun _ h_ => h_) (fun _ h_ => h_)
              have xfab44_33 : Ex τ τfab44_33 := Ex.tr xfa_19 exfab44_33
              have hab44_55 : τfab44_33 u0 = 10 := Ex.at exfab44_33 ha_39 (by decide)
              have hab44_56 : τfab44_33 qa_6 = 1 := Ex.at exfab44_33 ha_40 (by decide)
              have hab44_57 : τfab44_33 nw = 54 := Ex.at exfab44_33 tqnw (by decide)
              have hab44_58 : τfab44_33 bo = 12 := Ex.at exfab44_33 ha_41 (by decide)
              have hab44_59 : τfab44_33 fq = 50 := Ex.at exfab44_33 ha_42 (by decide)
              have hab44_60 : τfab44_33 sn = 15 := Ex.at exfab44_33 ha_43 (by decide)
              have hab44_61 : τfab44_33 bf = 17 := Ex.at exfab44_33 ha_44 (by decide)
              have hab44_62 : τfab44_33 qn = 4 := Ex.at exfab44_33 ha_45 (by decide)
              have hab44_63 : τfab44_33 qa = 4 := Ex.at exfab44_33 ha_46 (by decide)
              have hab44_64 : τfab44_33 wqS1 = 2 := Ex.at exfab44_33 ha_47 (by decide)
              have hab44_65 : τfab44_33 sq = 18 := Ex.at exfab44_33 ha_48 (by decide)
              have ofab44_33z := Fr.rf [0, 4, 12, 18, 50, 54, 12001, 12006, 18002] τfab44_33 fab44_33
              refine lv_astore (lv' := [(5, .ref qab44_11), (0, .ref u0), (1, .int u1), (2, .int u2), (3, .ref qa_6), (4, .ref nw)]) hx hb dX10_scale_102 hl (by decide) rfl (fun ls hl => ?_)
              refine lv_aload_n hx hb dX10_scale_104 rfl (lv_at hl 1 rfl) ?_
              refine t_getfd C h tfab44_33 hab44_55 (by decide) wf_10 (v := .ref bo) kab44_35 fl_X10_19 dX10_scale_105 ?_
              refine lv_iload_n hx hb dX10_scale_108 rfl (lv_at hl 2 rfl) ?_
              refine lv_aload hx hb dX10_scale_109 (lv_at hl 0 rfl) ?_
              obtain ⟨_, rab44_66⟩ := t_rec tfab44_33 hab44_58 (by decide) wf_12
              refine k_v (r_V C h hl (As := [.int u1, .ref qab44_11]) (rest := []) (s_X0_replaceX l D G b0 τfab44_33 fab44_33 tfab44_33 bo hab44_58 u1 jv44_1 qab44_11 tqqab44_11 sq hab44_65 ac jg44_bo_0 kab44_37 nx jg44_bo_5 kab44_38 sn hab44_60 kab44_39 bf hab44_61 kab44_40 qn hab44_62 kab44_41 sz jg44_sn_1 kab44_42 qa hab44_63 kab44_43 rn kab44_45 rf kab44_46 ra kab44_47 esq hab (by omega) (by omega)) rab44_66 (Cn := RX0) (T := TX0) (N := 6) rfl rfl mk_X0_replace w_632 w_633 w_634 w_635 ⟨Nat.le_of_ble_eq_true rfl, Nat.le_of_ble_eq_true rfl⟩ rfl (Nat.le_of_ble_eq_true rfl) ⟨Nat.le_of_ble_eq_true rfl, Nat.le_of_ble_eq_true rfl⟩ rfl dX10_scale_111) h (fun fab44_68 H locs pab44_69 h => ?_)
              obtain ⟨tfab44_68, ogfab44_68, ⟨nx1_fab44_68, kpu0_5fab44_68, ipu0_5fab44_68, rpu0_5fab44_68⟩, ⟨ac1_fab44_68, kpu0_0fab44_68, ipu0_0fab44_68, rpu0_0fab44_68⟩, ⟨sza_fab44_68, kpsq_1fab44_68, ipsq_1fab44_68, rpsq_1fab44_68⟩, ⟨ra1_fab44_68, kRqafab44_68, pRqafab44_68⟩, ⟨rn1_fab44_68, kRqnfab44_68, pRqnfab44_68⟩, fxfab44_68⟩ := pab44_69
              have ofab44_68 : Fr [0, 4, 12, 18, 50, 54, 12001, 12006, 18002] τfab44_33 fab44_33 fab44_68 := Fr.tr ofab44_33z ogfab44_68 (by decide) (by decide)
              have kab44_70 := atp.fr kab44_35 ogfab44_68 hab44_55 (by decide)
              have kab44_71 := atp.fr kab44_36 ogfab44_68 hab44_55 (by decide)
              have kab44_72 := atp.fk kab44_39 ogfab44_68 hab44_58 (by decide) (by decide)
              have kab44_73 := atp.fk kab44_40 ogfab44_68 hab44_58 (by decide) (by decide)
              have kab44_74 := atp.fr kab44_41 ogfab44_68 hab44_60 (by decide)
              have kab44_75 := atp.fr kab44_42 ogfab44_68 hab44_60 (by decide)
              have kab44_76 := atp.fk kab44_43 ogfab44_68 hab44_65 (by decide) (by decide)
              have kab44_77 := atp.fr kab44_46 ogfab44_68 hab44_61 (by decide)
              have kab44_78 := atp.fr kab44_48 ogfab44_68 hab44_59 (by decide)
              have kab44_79 := FX.tr kab44_49 fxfab44_68 (by simp)
              have kab44_80 := atp.fr kab44_50 ogfab44_68 hab44_56 (by decide)
              have kab44_81 := atp.fr kab44_51 ogfab44_68 hab44_64 (by decide)
              have kab44_82 := atp.fr kab44_52 ogfab44_68 hab44_56 (by decide)
              have kab44_83 := atp.fr kab44_53 ogfab44_68 hab44_56 (by decide)
              have kab44_84 := atp.fr kab44_54 ogfab44_68 hab44_57 (by decide)
              have kab44_85 := atp.fr kafab44_33 ogfab44_68 tqqab44_11 (by decide)
              have kab44_86 := atp.fr kbfab44_33 ogfab44_68 tqqab44_34 (by decide)
              have kab44_87 := atp.fr kcfab44_33 ogfab44_68 tqqab44_11 (by decide)
              have kab44_88 := atp.fr kdfab44_33 ogfab44_68 tqqab44_11 (by decide)
              refine lv_aload hx hb dX10_scale_114 (lv_at hl 0 rfl) ?_
              obtain ⟨_, rab44_89⟩ := t_rec tfab44_68 tqqab44_11 (by decide) wf_1
              refine k_i (r_V C h hl (As := []) (rest := []) (s_X6_weightTotalX l D G b0 τfab44_33 fab44_68 tfab44_68 qab44_11 tqqab44_11 qab44_34 tqqab44_34 kab44_85 g44_nw_R kab44_86) rab44_89 (Cn := RX6) (T := TX6) (N := 4) rfl rfl mk_X6_weightTotal w_636 w_637 w_638 w_639 ⟨Nat.le_of_ble_eq_true rfl, Nat.le_of_ble_eq_true rfl⟩ rfl (Nat.le_of_ble_eq_true rfl) ⟨Nat.le_of_ble_eq_true rfl, Nat.le_of_ble_eq_true rfl⟩ rfl dX10_scale_116) h (fun rab44_90 fab44_91 H locs pab44_92 h => ?_)
              obtain ⟨irab44_90, tfab44_91, ogfab44_91, x0rab44_90⟩ := pab44_92
              have egfab44_91 := Fr.nil2 ogfab44_91
              subst egfab44_91
              exact u_iret C h hr hQ (⟨τfab44_33, xfab44_33, (iv_w irab44_90 (by decide)), tfab44_68, (Fr.tr Ofab44_33 (Fr.cv xfab44_33 ofab44_68 (by decide) (fun _ h_ => h_)) (fun _ h_ => h_) (fun _ h_ => h_)), ⟨fun _ => (by rw [x0rab44_90]; exact psm_wsm (by omega) (sc_row (fun k hk => by rw [hv44_0 k, if_pos (by omega)]) hwS1 (by omega)) 8 (by decide)), fun z_ => (z_ ⟨by omega, by omega, (sc_dig (fun k hk => by rw [hv44_0 k, if_pos (by omega)]) hwS1 (by omega) ⟨by omega, by omega⟩ hb9).mp iab44_10⟩).elim⟩, ⟨nx1_fab44_68, kpu0_5fab44_68, ipu0_5fab44_68, ⟨fun _ => (by omega), fun z_ => (z_ ⟨by omega, by omega, (sc_dig (fun k hk => by rw [hv44_0 k, if_pos (by omega)]) hwS1 (by omega) ⟨by omega, by omega⟩ hb9).mp iab44_10⟩).elim⟩⟩, ⟨ac1_fab44_68, kpu0_0fab44_68, ipu0_0fab44_68, ⟨fun _ => (by omega), fun z_ => (z_ ⟨by omega, by omega, (sc_dig (fun k hk => by rw [hv44_0 k, if_pos (by omega)]) hwS1 (by omega) ⟨by omega, by omega⟩ hb9).mp iab44_10⟩).elim⟩⟩, ⟨sz, kab44_75, jg44_sn_1, ⟨fun _ => (by omega), fun z_ => (z_ ⟨by omega, by omega, (sc_dig (fun k hk => by rw [hv44_0 k, if_pos (by omega)]) hwS1 (by omega) ⟨by omega, by omega⟩ hb9).mp iab44_10⟩).elim⟩⟩, ⟨sza_fab44_68, kpsq_1fab44_68, ipsq_1fab44_68, ⟨fun _ => (by omega), fun z_ => (z_ ⟨by omega, by omega, (sc_dig (fun k hk => by rw [hv44_0 k, if_pos (by omega)]) hwS1 (by omega) ⟨by omega, by omega⟩ hb9).mp iab44_10⟩).elim⟩⟩, ⟨ra1_fab44_68, kRqafab44_68, ⟨fun _ => pRqafab44_68, fun z_ => (z_ ⟨by omega, by omega, (sc_dig (fun k hk => by rw [hv44_0 k, if_pos (by omega)]) hwS1 (by omega) ⟨by omega, by omega⟩ hb9).mp iab44_10⟩).elim⟩⟩, ⟨rn1_fab44_68, kRqnfab44_68, ⟨fun _ => ⟨qab44_11, ⟨tqqab44_11, qab44_34, g44_nw_R, tqqab44_34, kab44_85, kab44_86, (sc_row (fun k hk => by rw [hv44_0 k, if_pos (by omega)]) hwS1 (by omega)), by rw [show (fun k => sc bk u1.toInt u2 (10 * u1.toInt.toNat + k)) 8 = sxS1 from (sc_hi (by omega) (by decide)).trans esxS1.symm]; exact kab44_87, by rw [show (fun k => sc bk u1.toInt u2 (10 * u1.toInt.toNat + k)) 9 = syS1 from (sc_hi (by omega) (by decide)).trans esyS1.symm]; exact kab44_88⟩, pRqnfab44_68⟩, fun z_ => (z_ ⟨by omega, by omega, (sc_dig (fun k hk => by rw [hv44_0 k, if_pos (by omega)]) hwS1 (by omega) ⟨by omega, by omega⟩ hb9).mp iab44_10⟩).elim⟩⟩, ⟨rq, kab44_78, (bump_no (by rw [if_neg (by omega), if_neg (by omega), if_neg (fun z_ => z_ ((sc_dig (fun k hk => by rw [hv44_0 k, if_pos (by omega)]) hwS1 (by omega) ⟨by omega, by omega⟩ hb9).mp iab44_10))]))⟩, kab44_79⟩) (Nat.le_of_ble_eq_true rfl) (Nat.le_of_ble_eq_true rfl) dX10_scale_119
            · have cab44_8 : rab44_4.toInt = 0 := congrArg Int32.toInt cab44_7
              have iab44_9 : iv rab44_4 0 0 := iv_Q cab44_8 irab44_4 (iv_k (x := 0) (k := 0) rfl) (by decide)
              have iab44_10 := czrab44_4 cab44_8
              refine lv_aload_n hx hb dX10_scale_79 rfl (lv_at hl 0 rfl) ?_
              refine lv_iconst (v := 1) hx hb dX10_scale_80 (by decide) ?_
              obtain ⟨_, rab44_11⟩ := t_rec t_44 ha_39 (by decide) wf_10
              refine k_i (r_V C h hl (As := [.int 1]) (rest := []) (s_X10_refuseX l D G b0 τnw f_44 t_44 u0 ha_39 1 (iv_w (iv_k (x := 1) (k := 1) rfl) (by decide)) fq ha_42 k44_u0_7 rq k44_fq_R) rab44_11 (Cn := RX10) (T := TX10) (N := 10) rfl rfl mk_X10_refuse w_519 w_521 w_8 w_522 ⟨Nat.le_of_ble_eq_true rfl, Nat.le_of_ble_eq_true rfl⟩ rfl (Nat.le_of_ble_eq_true rfl) ⟨Nat.le_of_ble_eq_true rfl, Nat.le_of_ble_eq_true rfl⟩ rfl dX10_scale_81) h (fun rab44_12 fab44_13 H locs pab44_14 h => ?_)
              obtain ⟨irab44_12, tfab44_13, ogfab44_13, ⟨rq1_fab44_13, kRfqfab44_13, pRfqfab44_13⟩, fxfab44_13⟩ := pab44_14
              have ofab44_13 : Fr [0, 4, 12, 18, 50, 54, 12001, 12006, 18002] τnw fa_19 fab44_13 := Fr.tr o_44 ogfab44_13 (by decide) (by decide)
              have kab44_15 := atp.fr k44_u0_1 ogfab44_13 ha_39 (by decide)
              have kab44_16 := atp.fr k44_u0_7 ogfab44_13 ha_39 (by decide)
              have kab44_17 := atp.fr k44_bo_0 ogfab44_13 ha_41 (by decide)
              have kab44_18 := atp.fr k44_bo_5 ogfab44_13 ha_41 (by decide)
              have kab44_19 := atp.fr k44_bo_1 ogfab44_13 ha_41 (by decide)
              have kab44_20 := atp.fr k44_bo_3 ogfab44_13 ha_41 (by decide)
              have kab44_21 := atp.fr k44_sn_0 ogfab44_13 ha_43 (by decide)
              have kab44_22 := atp.fr k44_sn_1 ogfab44_13 ha_43 (by decide)
              have kab44_23 := atp.fr k44_sq_0 ogfab44_13 ha_48 (by decide)
              have kab44_24 := atp.fr k44_sq_1 ogfab44_13 ha_48 (by decide)
              have kab44_25 := atp.fr k44_qn_R ogfab44_13 ha_45 (by decide)
              have kab44_26 := atp.fr k44_bf_R ogfab44_13 ha_44 (by decide)
              have kab44_27 := atp.fr k44_qa_R ogfab44_13 ha_46 (by decide)
              have kab44_28 := FX.tr k44_fx_FX fxfab44_13 (by simp)
              have kab44_29 := atp.fr k44_qa_6_0 ogfab44_13 ha_40 (by decide)
              have kab44_30 := atp.fr k44_wqS1_R ogfab44_13 ha_47 (by decide)
              have kab44_31 := atp.fr k44_qa_6_1 ogfab44_13 ha_40 (by decide)
              have kab44_32 := atp.fr k44_qa_6_2 ogfab44_13 ha_40 (by decide)
              have kab44_33 := atp.fr k44_nw_R ogfab44_13 tqnw (by decide)
              exact u_iret C h hr hQ (⟨τnw, xfa_19, (iv_w irab44_12 (by decide)), tfab44_13, (Fr.tr Ofa_19 (Fr.cv xfa_19 ofab44_13 (by decide) (fun _ h_ => h_)) (fun _ h_ => h_) (fun _ h_ => h_)), ⟨fun z_ => absurd z_ (fun z_ => iab44_10 ((sc_dig (fun k hk => by rw [hv44_0 k, if_pos (by omega)]) hwS1 (by omega) ⟨by omega, by omega⟩ hb9).mpr z_.2.2)), fun _ => (by omega)⟩, ⟨nx, kab44_18, jg44_bo_5, ⟨fun z_ => absurd z_ (fun z_ => iab44_10 ((sc_dig (fun k hk => by rw [hv44_0 k, if_pos (by omega)]) hwS1 (by omega) ⟨by omega, by omega⟩ hb9).mpr z_.2.2)), fun _ => rfl⟩⟩, ⟨ac, kab44_17, jg44_bo_0, ⟨fun z_ => absurd z_ (fun z_ => iab44_10 ((sc_dig (fun k hk => by rw [hv44_0 k, if_pos (by omega)]) hwS1 (by omega) ⟨by omega, by omega⟩ hb9).mpr z_.2.2)), fun _ => rfl⟩⟩, ⟨sz, kab44_22, jg44_sn_1, ⟨fun z_ => absurd z_ (fun z_ => iab44_10 ((sc_dig (fun k hk => by rw [hv44_0 k, if_pos (by omega)]) hwS1 (by omega) ⟨by omega, by omega⟩ hb9).mpr z_.2.2)), fun _ => rfl⟩⟩, ⟨sa, kab44_24, jg44_sq_1, ⟨fun z_ => absurd z_ (fun z_ => iab44_10 ((sc_dig (fun k hk => by rw [hv44_0 k, if_pos (by omega)]) hwS1 (by omega) ⟨by omega, by omega⟩ hb9).mpr z_.2.2)), fun _ => rfl⟩⟩, ⟨ra, kab44_27, ⟨fun z_ => absurd z_ (fun z_ => iab44_10 ((sc_dig (fun k hk => by rw [hv44_0 k, if_pos (by omega)]) hwS1 (by omega) ⟨by omega, by omega⟩ hb9).mpr z_.2.2)), fun _ => rfl⟩⟩, ⟨rn, kab44_25, ⟨fun z_ => absurd z_ (fun z_ => iab44_10 ((sc_dig (fun k hk => by rw [hv44_0 k, if_pos (by omega)]) hwS1 (by omega) ⟨by omega, by omega⟩ hb9).mpr z_.2.2)), fun _ => rfl⟩⟩, ⟨rq1_fab44_13, kRfqfab44_13, (bump_eq (c := 1) pRfqfab44_13 rfl (by decide) (by rw [if_neg (by omega), if_neg (by omega), if_pos (fun z_ => iab44_10 ((sc_dig (fun k hk => by rw [hv44_0 k, if_pos (by omega)]) hwS1 (by omega) ⟨by omega, by omega⟩ hb9).mpr z_))]))⟩, kab44_28⟩) (Nat.le_of_ble_eq_true rfl) (Nat.le_of_ble_eq_true rfl) dX10_scale_84
          · have cab44_2 : v44_5.toInt < 8 := Int32.lt_iff_toInt_lt.mp (iv_nle cab44_1)
            have iab44_3 : iv v44_5 0 7 := iv_Ll cab44_2 iv44_5 (iv_k (x := 8) (k := 8) rfl) (by decide)
            refine lv_aload hx hb dX10_scale_51 (lv_at hl 4 rfl) ?_
            refine lv_iload hx hb dX10_scale_53 (lv_at hl 5 rfl) ?_
            refine lv_aload_n hx hb dX10_scale_55 rfl (lv_at hl 3 rfl) ?_
            refine t_getfd C h t_44 ha_40 (by decide) wf_1 (v := .ref wqS1) k44_qa_6_0 fl_X10_135 dX10_scale_56 ?_
            refine lv_iload hx hb dX10_scale_59 (lv_at hl 5 rfl) ?_
            refine e_iald C h t_44 ha_47 (by decide) wf_2 k44_wqS1_R (iv_in iab44_3 (by decide)) dX10_scale_61 (fun zab44_4 ezab44_4 izab44_4 => ?_)
            have mzab44_4 := congrArg Int32.toInt ezab44_4
            refine lv_iload_n hx hb dX10_scale_62 rfl (lv_at hl 2 rfl) ?_
            refine i_mulp hx hb dX10_scale_63 izab44_4 jv44_2 (lo := 0) (hi := 81) (by decide) (fun zab44_5 ezab44_5 izab44_5 => ?_)
            refine e_iast C h t_44 o_44 tqnw (by decide) (by decide) wf_54 fw_54 k44_nw_R (iv_in iab44_3 (by decide)) (iv_w izab44_5 (by decide)) dX10_scale_64 (fun Rab44_8 fab44_6 erRab44_8 H locs h tfab44_6 ofab44_6 hq hn_ kab44_7 => ?_)
            have kab44_9 := atp.tg k44_u0_1 hq ha_39 (by decide)
            have kab44_10 := atp.tg k44_u0_7 hq ha_39 (by decide)
            have kab44_11 := atp.tg k44_bo_0 hq ha_41 (by decide)
            have kab44_12 := atp.tg k44_bo_5 hq ha_41 (by decide)
            have kab44_13 := atp.tg k44_bo_1 hq ha_41 (by decide)
            have kab44_14 := atp.tg k44_bo_3 hq ha_41 (by decide)
            have kab44_15 := atp.tg k44_sn_0 hq ha_43 (by decide)
            have kab44_16 := atp.tg k44_sn_1 hq ha_43 (by decide)
            have kab44_17 := atp.tg k44_sq_0 hq ha_48 (by decide)
            have kab44_18 := atp.tg k44_sq_1 hq ha_48 (by decide)
            have kab44_19 := atp.tg k44_qn_R hq ha_45 (by decide)
            have kab44_20 := atp.tg k44_bf_R hq ha_44 (by decide)
            have kab44_21 := atp.tg k44_qa_R hq ha_46 (by decide)
            have kab44_22 := atp.tg k44_fq_R hq ha_42 (by decide)
            have kab44_23 := FX.upn k44_fx_FX hn_ nfnw
            have kab44_24 := atp.tg k44_qa_6_0 hq ha_40 (by decide)
            have kab44_25 := atp.tg k44_wqS1_R hq ha_47 (by decide)
            have kab44_26 := atp.tg k44_qa_6_1 hq ha_40 (by decide)
            have kab44_27 := atp.tg k44_qa_6_2 hq ha_40 (by decide)
            refine i_inc hx hb dX10_scale_65 hl (k := 5) rfl iab44_3 rfl (lo := 1) (hi := 8) (by decide) (by decide) (lv' := fun v => [(5, .int v), (0, .ref u0), (1, .int u1), (2, .int u2), (3, .ref qa_6), (4, .ref nw)]) (fun _ => rfl) (fun zab44_29 ls ezab44_29 mzab44_29 izab44_29 hl => ?_)
            refine lv_goto (tgt := 44) hx hb dX10_scale_68 (by decide) ?_
            exact ih44 ls fab44_6 H locs zab44_29 Rab44_8 (show 8 - zab44_29.toInt < _ by omega) (lv_cons hl 1 rfl (lv_cons hl 2 rfl (lv_cons hl 3 rfl (lv_cons hl 4 rfl (lv_cons hl 5 rfl (lv_cons hl 0 rfl (lv_nil hl))))))) h tfab44_6 ofab44_6 jv44_1 jv44_2 (iv_w izab44_29 (by decide)) jg44_bo_0 jg44_bo_5 jg44_sn_1 jg44_sq_1 jg44_qa_6_1 jg44_qa_6_2 kab44_9 kab44_10 kab44_11 kab44_12 kab44_13 kab44_14 kab44_15 kab44_16 kab44_17 kab44_18 kab44_19 kab44_20 kab44_21 kab44_22 kab44_23 kab44_24 kab44_25 kab44_26 kab44_27 kab44_7 (show ∀ k : Nat, Rab44_8 k = if (k : Int) < zab44_29.toInt then wwS1 k * u2 else 0 from (by
                intro k; rw [erRab44_8]; by_cases q_ : k = v44_5.toInt.toNat
                · rw [upd_at q_, ezab44_5, ezab44_4, ← q_]; (repeat' split) <;> first | rfl | (exfalso; omega) | (exact congrArg _ (by omega)) | (exact congr (congrArg HAdd.hAdd (congrArg rb (by omega))) (congrArg rb (by omega)))
                · rw [upd_off q_, hv44_0 k]; (repeat' split) <;> first | rfl | (exfalso; omega) | (exact congrArg _ (by omega))))
      exact L44 9 ls fa_19 H locs 0 ((fun _ => (0 : Int32))) (by decide) (lv_cons hl 3 rfl (lv_cons hl 4 rfl (lv_cons hl 5 rfl (lv_cons hl 2 rfl (lv_cons hl 1 rfl (lv_cons hl 0 rfl (lv_nil hl))))))) h tfa_19 ofa_19z hu1 ia_17 ⟨by decide, by decide⟩ hac hnx hsz hsa isxS1 isyS1 ka_20 ka_21 ka_22 ka_23 ka_24 ka_25 ka_26 ka_27 ka_28 ka_29 ka_30 ka_31 ka_32 ka_33 ka_34 ka_35 ka_36 ka_37 ka_38 kRnw (show ∀ k : Nat, (fun _ => (0 : Int32)) k = if (k : Int) < 0 then wwS1 k * u2 else 0 from (by
          intro k; (repeat' split) <;> first | rfl | (exfalso; omega) | (exact congrArg _ (by omega))))
    · have ca_13 : ra_7.toInt = 0 := congrArg Int32.toInt ca_12
      have ia_14 : iv ra_7 0 0 := iv_Q ca_13 ira_7 (iv_k (x := 0) (k := 0) rfl) (by decide)
      have ia_15 := czra_7 ca_13
      refine lv_aload_n hx hb dX10_scale_29 rfl (lv_at hl 1 rfl) ?_
      refine lv_iconst (v := 1) hx hb dX10_scale_30 (by decide) ?_
      obtain ⟨_, ra_16⟩ := t_rec t hu0 (by decide) wf_10
      refine k_i (r_V C h hl (As := [.int 1]) (rest := []) (s_X10_refuseX l D G b0 τ f t u0 hu0 1 (iv_w (iv_k (x := 1) (k := 1) rfl) (by decide)) fq hfq k_u0_7 rq hRfq) ra_16 (Cn := RX10) (T := TX10) (N := 10) rfl rfl mk_X10_refuse w_519 w_521 w_8 w_522 ⟨Nat.le_of_ble_eq_true rfl, Nat.le_of_ble_eq_true rfl⟩ rfl (Nat.le_of_ble_eq_true rfl) ⟨Nat.le_of_ble_eq_true rfl, Nat.le_of_ble_eq_true rfl⟩ rfl dX10_scale_31) h (fun ra_17 fa_18 H locs pa_19 h => ?_)
      obtain ⟨ira_17, tfa_18, ogfa_18, ⟨rq1_fa_18, kRfqfa_18, pRfqfa_18⟩, fxfa_18⟩ := pa_19
      have ofa_18 : Fr [0, 4, 12, 18, 50, 54, 12001, 12006, 18002] τ f fa_18 := Fr.tr o ogfa_18 (by decide) (by decide)
      have ka_20 := atp.fr k_u0_1 ogfa_18 hu0 (by decide)
      have ka_21 := atp.fr k_u0_7 ogfa_18 hu0 (by decide)
      have ka_22 := atp.fr k_bo_0 ogfa_18 hbo (by decide)
      have ka_23 := atp.fr k_bo_5 ogfa_18 hbo (by decide)
      have ka_24 := atp.fr k_bo_1 ogfa_18 hbo (by decide)
      have ka_25 := atp.fr k_bo_3 ogfa_18 hbo (by decide)
      have ka_26 := atp.fr k_sn_0 ogfa_18 hsn (by decide)
      have ka_27 := atp.fr k_sn_1 ogfa_18 hsn (by decide)
      have ka_28 := atp.fr k_sq_0 ogfa_18 hsq (by decide)
      have ka_29 := atp.fr k_sq_1 ogfa_18 hsq (by decide)
      have ka_30 := atp.fr hRqn ogfa_18 hqn (by decide)
      have ka_31 := atp.fr hRbf ogfa_18 hbf (by decide)
      have ka_32 := atp.fr hRqa ogfa_18 hqa (by decide)
      have ka_33 := FX.tr hfx fxfa_18 (by simp)
      have ka_34 := atp.fr kwS1 ogfa_18 tqa_6 (by decide)
      have ka_35 := atp.fr krS1 ogfa_18 twS1 (by decide)
      have ka_36 := atp.fr kxS1 ogfa_18 tqa_6 (by decide)
      have ka_37 := atp.fr kyS1 ogfa_18 tqa_6 (by decide)
      exact u_iret C h hr hQ (⟨τ, (Ex.rf τ), (iv_w ira_17 (by decide)), tfa_18, ofa_18, ⟨fun z_ => absurd z_ (by omega), fun _ => (by omega)⟩, ⟨nx, ka_23, hnx, ⟨fun z_ => absurd z_ (by omega), fun _ => rfl⟩⟩, ⟨ac, ka_22, hac, ⟨fun z_ => absurd z_ (by omega), fun _ => rfl⟩⟩, ⟨sz, ka_27, hsz, ⟨fun z_ => absurd z_ (by omega), fun _ => rfl⟩⟩, ⟨sa, ka_29, hsa, ⟨fun z_ => absurd z_ (by omega), fun _ => rfl⟩⟩, ⟨ra, ka_32, ⟨fun z_ => absurd z_ (by omega), fun _ => rfl⟩⟩, ⟨rn, ka_30, ⟨fun z_ => absurd z_ (by omega), fun _ => rfl⟩⟩, ⟨rq1_fa_18, kRfqfa_18, (bump_eq (c := 1) pRfqfa_18 rfl (by decide) (by rw [if_neg (by omega), if_pos (by omega)]))⟩, ka_33⟩) (Nat.le_of_ble_eq_true rfl) (Nat.le_of_ble_eq_true rfl) dX10_scale_34
abbrev rm_s_X10_startX : Room := { frames := 3, cells := 2, slots := 12, locals := 64 }
set_option maxRecDepth 100000 in
set_option maxHeartbeats 4000000 in
theorem s_X10_startX (l : Launch) (D : va_G) (G : Nat → Nat) (b0 : Nat) (τ : Nat → Nat) (f : hM) (t : TI G 9 τ f) (u0 : Nat) (hu0 : τ u0 = 10) (u1 : Int32) (hu1 : iv u1 (-2147483648) 2147483647) (u2 : Int32) (hu2 : iv u2 (-2147483648) 2147483647) (u3 : Int32) (hu3 : iv u3 (-2147483648) 2147483647) (sq : Nat) (hsq : τ sq = 18) (bo : Nat) (hbo : τ bo = 12) (k_u0_1 : atp f u0 (fd 1 (.ref bo))) (fq : Nat) (hfq : τ fq = 50) (k_u0_7 : atp f u0 (fd 7 (.ref fq))) (ac : Int32) (hac : iv ac 0 12) (k_bo_0 : atp f bo (fd 0 (.int ac))) (nx : Int32) (hnx : iv nx 0 11) (k_bo_5 : atp f bo (fd 5 (.int nx))) (sn : Nat) (hsn : τ sn = 15) (k_bo_1 : atp f bo (fd 1 (.ref sn))) (bf : Nat) (hbf : τ bf = 17) (k_bo_3 : atp f bo (fd 3 (.ref bf))) (qn : Nat) (hqn : τ qn = 4) (k_sn_0 : atp f sn (fd 0 (.ref qn))) (sz : Int32) (hsz : iv sz 0 8) (k_sn_1 : atp f sn (fd 1 (.int sz))) (qa : Nat) (hqa : τ qa = 4) (k_sq_0 : atp f sq (fd 0 (.ref qa))) (sa : Int32) (hsa : iv sa 0 8) (k_sq_1 : atp f sq (fd 1 (.int sa))) (rn : Nat → Option Nat) (hRqn : atp f qn (eqr G 4 8 rn)) (rf : Nat → Option Nat) (hRbf : atp f bf (eqr G 3 12 rf)) (ra : Nat → Option Nat) (hRqa : atp f qa (eqr G 4 8 ra)) (rq : Nat → Int32) (hRfq : atp f fq (eqc (.inl (G 1, 4, .inl rq)))) (esq : rf nx.toInt.toNat = some sq) (hab : qn ≠ qa) (bk : Nat → Int32) (hb9 : ∀ k : Nat, k < 80 → iv (bk k) 0 9) (hSO : ∀ j : Nat, (j : Int) < sz.toInt → ∃ q, rn j = some q ∧ SO G τ f q (fun k => bk (10 * j + k)))  : mI l yX10_start cX10_start 5 (.int) rm_s_X10_startX D G b0 f [.ref u0, .int u1, .int u2, .int u3] (fun r f1 => (∃ τ1, Ex τ τ1 ∧ iv r (-1) 99 ∧ TI G 9 τ1 f1 ∧ Fr [0, 4, 12, 18, 50, 12001, 12006, 18002] τ f f1 ∧ (((((0 ≤ u1.toInt ∧ u1.toInt < sz.toInt) ∧ (0 ≤ u2.toInt ∧ u2.toInt ≤ 9) ∧ (0 ≤ u3.toInt ∧ u3.toInt ≤ 9) ∧ ¬ ((bk (10 * u1.toInt + 8).toNat).toInt = u2.toInt ∧ (bk (10 * u1.toInt + 9).toNat).toInt = u3.toInt))) → r.toInt = 10 * (bk (10 * u1.toInt + 8).toNat).toInt + (bk (10 * u1.toInt + 9).toNat).toInt) ∧ (¬ (((0 ≤ u1.toInt ∧ u1.toInt < sz.toInt) ∧ (0 ≤ u2.toInt ∧ u2.toInt ≤ 9) ∧ (0 ≤ u3.toInt ∧ u3.toInt ≤ 9) ∧ ¬ ((bk (10 * u1.toInt + 8).toNat).toInt = u2.toInt ∧ (bk (10 * u1.toInt + 9).toNat).toInt = u3.toInt))) → r.toInt = -1)) ∧ (∃ nx1 : Int32, atp f1 bo (fd 5 (.int nx1)) ∧ iv nx1 0 11 ∧ ((((0 ≤ u1.toInt ∧ u1.toInt < sz.toInt) ∧ (0 ≤ u2.toInt ∧ u2.toInt ≤ 9) ∧ (0 ≤ u3.toInt ∧ u3.toInt ≤ 9) ∧ ¬ ((bk (10 * u1.toInt + 8).toNat).toInt = u2.toInt ∧ (bk (10 * u1.toInt + 9).toNat).toInt = u3.toInt))) → nx1.toInt = (nx.toInt + 1) % 12) ∧ (¬ (((0 ≤ u1.toInt ∧ u1.toInt < sz.toInt) ∧ (0 ≤ u2.toInt ∧ u2.toInt ≤ 9) ∧ (0 ≤ u3.toInt ∧ u3.toInt ≤ 9) ∧ ¬ ((bk (10 * u1.toInt + 8).toNat).toInt = u2.toInt ∧ (bk (10 * u1.toInt + 9).toNat).toInt = u3.toInt))) → nx1.toInt = nx.toInt)) ∧ (∃ ac1 : Int32, atp f1 bo (fd 0 (.int ac1)) ∧ iv ac1 0 12 ∧ ((((0 ≤ u1.toInt ∧ u1.toInt < sz.toInt) ∧ (0 ≤ u2.toInt ∧ u2.toInt ≤ 9) ∧ (0 ≤ u3.toInt ∧ u3.toInt ≤ 9) ∧ ¬ ((bk (10 * u1.toInt + 8).toNat).toInt = u2.toInt ∧ (bk (10 * u1.toInt + 9).toNat).toInt = u3.toInt))) → ((ac.toInt = 12 → ac1.toInt = 12) ∧ (ac.toInt ≠ 12 → ac1.toInt = ac.toInt + 1))) ∧ (¬ (((0 ≤ u1.toInt ∧ u1.toInt < sz.toInt) ∧ (0 ≤ u2.toInt ∧ u2.toInt ≤ 9) ∧ (0 ≤ u3.toInt ∧ u3.toInt ≤ 9) ∧ ¬ ((bk (10 * u1.toInt + 8).toNat).toInt = u2.toInt ∧ (bk (10 * u1.toInt + 9).toNat).toInt = u3.toInt))) → ac1.toInt = ac.toInt)) ∧ (∃ szn : Int32, atp f1 sn (fd 1 (.int szn)) ∧ iv szn 0 8 ∧ ((((0 ≤ u1.toInt ∧ u1.toInt < sz.toInt) ∧ (0 ≤ u2.toInt ∧ u2.toInt ≤ 9) ∧ (0 ≤ u3.toInt ∧ u3.toInt ≤ 9) ∧ ¬ ((bk (10 * u1.toInt + 8).toNat).toInt = u2.toInt ∧ (bk (10 * u1.toInt + 9).toNat).toInt = u3.toInt))) → szn.toInt = sz.toInt) ∧ (¬ (((0 ≤ u1.toInt ∧ u1.toInt < sz.toInt) ∧ (0 ≤ u2.toInt ∧ u2.toInt ≤ 9) ∧ (0 ≤ u3.toInt ∧ u3.toInt ≤ 9) ∧ ¬ ((bk (10 * u1.toInt + 8).toNat).toInt = u2.toInt ∧ (bk (10 * u1.toInt + 9).toNat).toInt = u3.toInt))) → szn.toInt = sz.toInt)) ∧ (∃ sza : Int32, atp f1 sq (fd 1 (.int sza)) ∧ iv sza 0 8 ∧ ((((0 ≤ u1.toInt ∧ u1.toInt < sz.toInt) ∧ (0 ≤ u2.toInt ∧ u2.toInt ≤ 9) ∧ (0 ≤ u3.toInt ∧ u3.toInt ≤ 9) ∧ ¬ ((bk (10 * u1.toInt + 8).toNat).toInt = u2.toInt ∧ (bk (10 * u1.toInt + 9).toNat).toInt = u3.toInt))) → sza.toInt = sz.toInt) ∧ (¬ (((0 ≤ u1.toInt ∧ u1.toInt < sz.toInt) ∧ (0 ≤ u2.toInt ∧ u2.toInt ≤ 9) ∧ (0 ≤ u3.toInt ∧ u3.toInt ≤ 9) ∧ ¬ ((bk (10 * u1.toInt + 8).toNat).toInt = u2.toInt ∧ (bk (10 * u1.toInt + 9).toNat).toInt = u3.toInt))) → sza.toInt = sa.toInt)) ∧ (∃ ra1 : Nat → Option Nat, atp f1 qa (eqr G 4 8 ra1) ∧ (((((0 ≤ u1.toInt ∧ u1.toInt < sz.toInt) ∧ (0 ≤ u2.toInt ∧ u2.toInt ≤ 9) ∧ (0 ≤ u3.toInt ∧ u3.toInt ≤ 9) ∧ ¬ ((bk (10 * u1.toInt + 8).toNat).toInt = u2.toInt ∧ (bk (10 * u1.toInt + 9).toNat).toInt = u3.toInt))) → ∀ k : Nat, k < 8 → ra1 k = rn k) ∧ (¬ (((0 ≤ u1.toInt ∧ u1.toInt < sz.toInt) ∧ (0 ≤ u2.toInt ∧ u2.toInt ≤ 9) ∧ (0 ≤ u3.toInt ∧ u3.toInt ≤ 9) ∧ ¬ ((bk (10 * u1.toInt + 8).toNat).toInt = u2.toInt ∧ (bk (10 * u1.toInt + 9).toNat).toInt = u3.toInt))) → ra1 = ra))) ∧ (∃ rn1 : Nat → Option Nat, atp f1 qn (eqr G 4 8 rn1) ∧ (((((0 ≤ u1.toInt ∧ u1.toInt < sz.toInt) ∧ (0 ≤ u2.toInt ∧ u2.toInt ≤ 9) ∧ (0 ≤ u3.toInt ∧ u3.toInt ≤ 9) ∧ ¬ ((bk (10 * u1.toInt + 8).toNat).toInt = u2.toInt ∧ (bk (10 * u1.toInt + 9).toNat).toInt = u3.toInt))) → ∃ z, SO G τ1 f1 z (fun k => so bk u1.toInt u2 u3 (10 * u1.toInt.toNat + k)) ∧ ∀ k : Nat, rn1 k = if k = u1.toInt.toNat then some z else rn k) ∧ (¬ (((0 ≤ u1.toInt ∧ u1.toInt < sz.toInt) ∧ (0 ≤ u2.toInt ∧ u2.toInt ≤ 9) ∧ (0 ≤ u3.toInt ∧ u3.toInt ≤ 9) ∧ ¬ ((bk (10 * u1.toInt + 8).toNat).toInt = u2.toInt ∧ (bk (10 * u1.toInt + 9).toNat).toInt = u3.toInt))) → rn1 = rn))) ∧ (∃ rq1 : Nat → Int32, atp f1 fq (eqc (.inl (G 1, 4, .inl rq1))) ∧ (∀ k : Nat, k < 4 → rq1 k = if (k : Int) = (if ¬ (0 ≤ u1.toInt ∧ u1.toInt < sz.toInt) then 0 else (if ¬ (0 ≤ u2.toInt ∧ u2.toInt ≤ 9) ∨ ¬ (0 ≤ u3.toInt ∧ u3.toInt ≤ 9) then 1 else (if (bk (10 * u1.toInt + 8).toNat).toInt = u2.toInt ∧ (bk (10 * u1.toInt + 9).toNat).toInt = u3.toInt then 3 else -1))) then rq k + 1 else rq k)) ∧ FX [qa, sq, bo, qn, sn, fq] f f1)) := by
  refine met2 (own := RX10) (by decide) rfl (Nat.le_of_ble_eq_true rfl) ?_
  intro p e s m args below meth c ls Q hQ C hr hini hl h
  have hl : lv_has ls 5 [(0, .ref u0), (1, .int u1), (2, .int u2), (3, .int u3)] := hl
  obtain ⟨hx, hb, hml, hown, hts, hE0, hlk⟩ := id C
  have o := Fr.rf [0, 4, 12, 18, 50, 12001, 12006, 18002] τ f
  have hfx := FX.rf [qa, sq, bo, qn, sn, fq] f
  refine lv_aload_n hx hb dX10_start_0 rfl (lv_at hl 0 rfl) ?_
  refine t_getfd C h t hu0 (by decide) wf_10 (v := .ref bo) k_u0_1 fl_X10_19 dX10_start_1 ?_
  refine lv_iload_n hx hb dX10_start_4 rfl (lv_at hl 1 rfl) ?_
  obtain ⟨_, ra_1⟩ := t_rec t hbo (by decide) wf_12
  refine k_q (r_V C h hl (As := [.int u1]) (rest := []) (s_X0_findX l D G b0 τ f t bo hbo u1 hu1 sn hsn k_bo_1 qn hqn k_sn_0 sz hsz k_sn_1 rn hRqn) ra_1 (Cn := RX0) (T := TX0) (N := 6) rfl rfl mk_X0_find w_594 w_595 w_596 w_597 ⟨Nat.le_of_ble_eq_true rfl, Nat.le_of_ble_eq_true rfl⟩ rfl (Nat.le_of_ble_eq_true rfl) ⟨Nat.le_of_ble_eq_true rfl, Nat.le_of_ble_eq_true rfl⟩ rfl dX10_start_5) h (fun ra_2 fa_3 H locs pa_4 h => ?_)
  obtain ⟨qra_2, tfa_3, ogfa_3, x0ra_2⟩ := pa_4
  have egfa_3 := Fr.nil2 ogfa_3
  subst egfa_3
  have tra_2 := qra_2
  refine lv_astoreO (lv' := [(4, va_rf ra_2), (0, .ref u0), (1, .int u1), (2, .int u2), (3, .int u3)]) hx hb dX10_start_8 hl (by decide) rfl (fun ls hl => ?_)
  refine lv_aloadO hx hb dX10_start_10 (lv_at hl 0 rfl) ?_
  rcases va_rfc ra_2 with eqa_6 | ⟨qa_6, eqa_6⟩
  · subst eqa_6
    have nkra_2 : ¬ (0 ≤ u1.toInt ∧ u1.toInt < sz.toInt) := fun z_ => by rw [if_pos z_] at x0ra_2; obtain ⟨q_, h_, -⟩ := hSO u1.toInt.toNat (by omega); rw [h_] at x0ra_2; cases x0ra_2
    have hl : lv_has ls 5 [(4, .null), (0, .ref u0), (1, .int u1), (2, .int u2), (3, .int u3)] := hl
    show W _ _ _ _ _ _ _ _ _ _ _ _ _ _ _ (F0 m 12 ls [.null])
    refine lv_ifnonnullN hx hb dX10_start_12 ?_
    refine lv_aload_n hx hb dX10_start_15 rfl (lv_at hl 1 rfl) ?_
    refine lv_iconst (v := 0) hx hb dX10_start_16 (by decide) ?_
    obtain ⟨_, ra_7⟩ := t_rec t hu0 (by decide) wf_10
    refine k_i (r_V C h hl (As := [.int 0]) (rest := []) (s_X10_refuseX l D G b0 τ f t u0 hu0 0 (iv_w (iv_k (x := 0) (k := 0) rfl) (by decide)) fq hfq k_u0_7 rq hRfq) ra_7 (Cn := RX10) (T := TX10) (N := 10) rfl rfl mk_X10_refuse w_519 w_521 w_8 w_522 ⟨Nat.le_of_ble_eq_true rfl, Nat.le_of_ble_eq_true rfl⟩ rfl (Nat.le_of_ble_eq_true rfl) ⟨Nat.le_of_ble_eq_true rfl, Nat.le_of_ble_eq_true rfl⟩ rfl dX10_start_17) h (fun ra_8 fa_9 H locs pa_10 h => ?_)
    obtain ⟨ira_8, tfa_9, ogfa_9, ⟨rq1_fa_9, kRfqfa_9, pRfqfa_9⟩, fxfa_9⟩ := pa_10
    have ofa_9 : Fr [0, 4, 12, 18, 50, 12001, 12006, 18002] τ f fa_9 := Fr.tr o ogfa_9 (by decide) (by decide)
    have ka_11 := atp.fr k_u0_1 ogfa_9 hu0 (by decide)
    have ka_12 := atp.fr k_u0_7 ogfa_9 hu0 (by decide)
    have ka_13 := atp.fr k_bo_0 ogfa_9 hbo (by decide)
    have ka_14 := atp.fr k_bo_5 ogfa_9 hbo (by decide)
    have ka_15 := atp.fr k_bo_1 ogfa_9 hbo (by decide)
    have ka_16 := atp.fr k_bo_3 ogfa_9 hbo (by decide)
    have ka_17 := atp.fr k_sn_0 ogfa_9 hsn (by decide)
    have ka_18 := atp.fr k_sn_1 ogfa_9 hsn (by decide)
    have ka_19 := atp.fr k_sq_0 ogfa_9 hsq (by decide)
    have ka_20 := atp.fr k_sq_1 ogfa_9 hsq (by decide)
    have ka_21 := atp.fr hRqn ogfa_9 hqn (by decide)
    have ka_22 := atp.fr hRbf ogfa_9 hbf (by decide)
    have ka_23 := atp.fr hRqa ogfa_9 hqa (by decide)
    have ka_24 := FX.tr hfx fxfa_9 (by simp)
    exact u_iret C h hr hQ (⟨τ, (Ex.rf τ), (iv_w ira_8 (by decide)), tfa_9, ofa_9, ⟨fun z_ => absurd z_ (by omega), fun _ => (by omega)⟩, ⟨nx, ka_14, hnx, ⟨fun z_ => absurd z_ (by omega), fun _ => rfl⟩⟩, ⟨ac, ka_13, hac, ⟨fun z_ => absurd z_ (by omega), fun _ => rfl⟩⟩, ⟨sz, ka_18, hsz, ⟨fun z_ => absurd z_ (by omega), fun _ => rfl⟩⟩, ⟨sa, ka_20, hsa, ⟨fun z_ => absurd z_ (by omega), fun _ => rfl⟩⟩, ⟨ra, ka_23, ⟨fun z_ => absurd z_ (by omega), fun _ => rfl⟩⟩, ⟨rn, ka_21, ⟨fun z_ => absurd z_ (by omega), fun _ => rfl⟩⟩, ⟨rq1_fa_9, kRfqfa_9, (bump_eq (c := 0) pRfqfa_9 rfl (by decide) (by rw [if_pos (by omega)]))⟩, ka_24⟩) (Nat.le_of_ble_eq_true rfl) (Nat.le_of_ble_eq_true rfl) dX10_start_20
  · subst eqa_6
    have tqa_6 : τ qa_6 = 1 := tra_2 _ rfl
    have okra_2 : (0 ≤ u1.toInt ∧ u1.toInt < sz.toInt) := by
      by_cases z_ : (0 ≤ u1.toInt ∧ u1.toInt < sz.toInt)
      · exact z_
      · rw [if_neg z_] at x0ra_2; cases x0ra_2
    rw [if_pos okra_2] at x0ra_2
    obtain ⟨q_, h_, -, wqS1, wwS1, twS1, kwS1, krS1, hwS1, kxS1, kyS1⟩ := hSO u1.toInt.toNat (by omega)
    rw [← x0ra_2] at h_; cases h_
    have hwS1 : ∀ k : Nat, k < 8 → wwS1 k = bk (10 * u1.toInt.toNat + k) := hwS1
    have kxS1 : atp f qa_6 (fd 1 (.int (bk (10 * u1.toInt.toNat + 8)))) := kxS1
    have kyS1 : atp f qa_6 (fd 2 (.int (bk (10 * u1.toInt.toNat + 9)))) := kyS1
    obtain ⟨sxS1, esxS1, isxS1⟩ : ∃ z_ : Int32, z_ = bk (10 * u1.toInt.toNat + 8) ∧ iv z_ 0 9 := ⟨_, rfl, hb9 _ (by omega)⟩
    rw [← esxS1] at kxS1
    obtain ⟨syS1, esyS1, isyS1⟩ : ∃ z_ : Int32, z_ = bk (10 * u1.toInt.toNat + 9) ∧ iv z_ 0 9 := ⟨_, rfl, hb9 _ (by omega)⟩
    rw [← esyS1] at kyS1
    have msx_ : sxS1.toInt = (bk (10 * u1.toInt + 8).toNat).toInt := by rw [esxS1]; exact congrArg (fun z_ => (bk z_).toInt) (by omega)
    have msy_ : syS1.toInt = (bk (10 * u1.toInt + 9).toNat).toInt := by rw [esyS1]; exact congrArg (fun z_ => (bk z_).toInt) (by omega)
    have hl : lv_has ls 5 [(4, .ref qa_6), (0, .ref u0), (1, .int u1), (2, .int u2), (3, .int u3)] := hl
    show W _ _ _ _ _ _ _ _ _ _ _ _ _ _ _ (F0 m 12 ls [.ref qa_6])
    refine lv_ifnonnull (tgt := 21) hx hb dX10_start_12 (by decide) ?_
    refine lv_iload_n hx hb dX10_start_21 rfl (lv_at hl 3 rfl) ?_
    refine lv_iconst (v := 0) hx hb dX10_start_22 (by decide) ?_
    refine lv_bipush (v := 9) hx hb dX10_start_23 (by decide) ?_
    refine k_i (r_S C h hl (As := [.int u2, .int 0, .int 9]) (rest := []) (s_X10_within l D G b0 τ f t u2 hu2 0 (iv_w (iv_k (x := 0) (k := 0) rfl) (by decide)) 9 (iv_w (iv_k (x := 9) (k := 9) rfl) (by decide))) mk_X10_within w_425 w_426 w_427 ⟨Nat.le_of_ble_eq_true rfl, Nat.le_of_ble_eq_true rfl⟩ rfl (Nat.le_of_ble_eq_true rfl) ⟨Nat.le_of_ble_eq_true rfl, Nat.le_of_ble_eq_true rfl⟩ rfl dX10_start_25) h (fun ra_7 fa_8 H locs pa_9 h => ?_)
    have na_10 : (0 : Int32).toInt = 0 := rfl
    have na_11 : (9 : Int32).toInt = 9 := rfl
    obtain ⟨ira_7, tfa_8, ogfa_8, cnra_7, czra_7⟩ := pa_9
    have egfa_8 := Fr.nil2 ogfa_8
    subst egfa_8
    refine lv_if_eq (tgt := 41) hx hb dX10_start_28 (by decide) (fun ca_12 => ?_) (fun ca_12 => ?_)
    · have ca_13 : ra_7.toInt = 0 := congrArg Int32.toInt ca_12
      have ia_14 : iv ra_7 0 0 := iv_Q ca_13 ira_7 (iv_k (x := 0) (k := 0) rfl) (by decide)
      have ia_15 := czra_7 ca_13
      refine lv_aload_n hx hb dX10_start_41 rfl (lv_at hl 1 rfl) ?_
      refine lv_iconst (v := 1) hx hb dX10_start_42 (by decide) ?_
      obtain ⟨_, ra_16⟩ := t_rec t hu0 (by decide) wf_10
      refine k_i (r_V C h hl (As := [.int 1]) (rest := []) (s_X10_refuseX l D G b0 τ f t u0 hu0 1 (iv_w (iv_k (x := 1) (k := 1) rfl) (by decide)) fq hfq k_u0_7 rq hRfq) ra_16 (Cn := RX10) (T := TX10) (N := 10) rfl rfl mk_X10_refuse w_519 w_521 w_8 w_522 ⟨Nat.le_of_ble_eq_true rfl, Nat.le_of_ble_eq_true rfl⟩ rfl (Nat.le_of_ble_eq_true rfl) ⟨Nat.le_of_ble_eq_true rfl, Nat.le_of_ble_eq_true rfl⟩ rfl dX10_start_43) h (fun ra_17 fa_18 H locs pa_19 h => ?_)
      obtain ⟨ira_17, tfa_18, ogfa_18, ⟨rq1_fa_18, kRfqfa_18, pRfqfa_18⟩, fxfa_18⟩ := pa_19
      have ofa_18 : Fr [0, 4, 12, 18, 50, 12001, 12006, 18002] τ f fa_18 := Fr.tr o ogfa_18 (by decide) (by decide)
      have ka_20 := atp.fr k_u0_1 ogfa_18 hu0 (by decide)
      have ka_21 := atp.fr k_u0_7 ogfa_18 hu0 (by decide)
      have ka_22 := atp.fr k_bo_0 ogfa_18 hbo (by decide)
      have ka_23 := atp.fr k_bo_5 ogfa_18 hbo (by decide)
      have ka_24 := atp.fr k_bo_1 ogfa_18 hbo (by decide)
      have ka_25 := atp.fr k_bo_3 ogfa_18 hbo (by decide)
      have ka_26 := atp.fr k_sn_0 ogfa_18 hsn (by decide)
      have ka_27 := atp.fr k_sn_1 ogfa_18 hsn (by decide)
      have ka_28 := atp.fr k_sq_0 ogfa_18 hsq (by decide)
      have ka_29 := atp.fr k_sq_1 ogfa_18 hsq (by decide)
      have ka_30 := atp.fr hRqn ogfa_18 hqn (by decide)
      have ka_31 := atp.fr hRbf ogfa_18 hbf (by decide)
      have ka_32 := atp.fr hRqa ogfa_18 hqa (by decide)
      have ka_33 := FX.tr hfx fxfa_18 (by simp)
      have ka_34 := atp.fr kwS1 ogfa_18 tqa_6 (by decide)
      have ka_35 := atp.fr krS1 ogfa_18 twS1 (by decide)
      have ka_36 := atp.fr kxS1 ogfa_18 tqa_6 (by decide)
      have ka_37 := atp.fr kyS1 ogfa_18 tqa_6 (by decide)
      exact u_iret C h hr hQ (⟨τ, (Ex.rf τ), (iv_w ira_17 (by decide)), tfa_18, ofa_18, ⟨fun z_ => absurd z_ (by omega), fun _ => (by omega)⟩, ⟨nx, ka_23, hnx, ⟨fun z_ => absurd z_ (by omega), fun _ => rfl⟩⟩, ⟨ac, ka_22, hac, ⟨fun z_ => absurd z_ (by omega), fun _ => rfl⟩⟩, ⟨sz, ka_27, hsz, ⟨fun z_ => absurd z_ (by omega), fun _ => rfl⟩⟩, ⟨sa, ka_29, hsa, ⟨fun z_ => absurd z_ (by omega), fun _ => rfl⟩⟩, ⟨ra, ka_32, ⟨fun z_ => absurd z_ (by omega), fun _ => rfl⟩⟩, ⟨rn, ka_30, ⟨fun z_ => absurd z_ (by omega), fun _ => rfl⟩⟩, ⟨rq1_fa_18, kRfqfa_18, (bump_eq (c := 1) pRfqfa_18 rfl (by decide) (by rw [if_neg (by omega), if_pos (by omega)]))⟩, ka_33⟩) (Nat.le_of_ble_eq_true rfl) (Nat.le_of_ble_eq_true rfl) dX10_start_46
    · have ca_13 : ra_7.toInt ≠ 0 := fun z_ => ca_12 (Int32.toInt_inj.mp z_)
      have ia_14 : iv ra_7 1 1 := iv_Nl ca_13 ira_7 (by decide)
      obtain ⟨ia_15, ia_16⟩ := cnra_7 ca_13
      have ia_17 : iv u2 0 9 := ⟨by omega, by omega⟩
      refine lv_iload_n hx hb dX10_start_31 rfl (lv_at hl 4 rfl) ?_
      refine lv_iconst (v := 0) hx hb dX10_start_32 (by decide) ?_
      refine lv_bipush (v := 9) hx hb dX10_start_33 (by decide) ?_
      refine k_i (r_S C h hl (As := [.int u3, .int 0, .int 9]) (rest := []) (s_X10_within l D G b0 τ f t u3 hu3 0 (iv_w (iv_k (x := 0) (k := 0) rfl) (by decide)) 9 (iv_w (iv_k (x := 9) (k := 9) rfl) (by decide))) mk_X10_within w_425 w_426 w_427 ⟨Nat.le_of_ble_eq_true rfl, Nat.le_of_ble_eq_true rfl⟩ rfl (Nat.le_of_ble_eq_true rfl) ⟨Nat.le_of_ble_eq_true rfl, Nat.le_of_ble_eq_true rfl⟩ rfl dX10_start_35) h (fun ra_18 fa_19 H locs pa_20 h => ?_)
      have na_21 : (0 : Int32).toInt = 0 := rfl
      have na_22 : (9 : Int32).toInt = 9 := rfl
      obtain ⟨ira_18, tfa_19, ogfa_19, cnra_18, czra_18⟩ := pa_20
      have egfa_19 := Fr.nil2 ogfa_19
      subst egfa_19
      refine lv_if_ne (tgt := 47) hx hb dX10_start_38 (by decide) (fun ca_23 => ?_) (fun ca_23 => ?_)
      · have ca_24 : ra_18.toInt ≠ 0 := fun z_ => ca_23 (Int32.toInt_inj.mp z_)
        have ia_25 : iv ra_18 1 1 := iv_Nl ca_24 ira_18 (by decide)
        obtain ⟨ia_26, ia_27⟩ := cnra_18 ca_24
        have ia_28 : iv u3 0 9 := ⟨by omega, by omega⟩
        refine lv_iload_n hx hb dX10_start_47 rfl (lv_at hl 3 rfl) ?_
        refine lv_aload hx hb dX10_start_48 (lv_at hl 0 rfl) ?_
        refine t_getfd C h t tqa_6 (by decide) wf_1 (v := .int sxS1) kxS1 fl_X10_125 dX10_start_50 ?_
        refine lv_icmp_ne (tgt := 71) hx hb dX10_start_53 (by decide) (fun ca_29 => ?_) (fun ca_29 => ?_)
        · have ca_30 : u2.toInt ≠ sxS1.toInt := fun z_ => ca_29 (Int32.toInt_inj.mp z_)
          refine lv_aload_n hx hb dX10_start_71 rfl (lv_at hl 1 rfl) ?_
          refine t_getfd C h t hu0 (by decide) wf_10 (v := .ref bo) k_u0_1 fl_X10_19 dX10_start_72 ?_
          refine lv_iload_n hx hb dX10_start_75 rfl (lv_at hl 2 rfl) ?_
          refine q_new C h nw_X10_121 (Nat.le_of_ble_eq_true rfl) (Nat.le_of_ble_eq_true rfl) dX10_start_76 (fun qa_31 H nqa_31 h => ?_)
          have tzqa_31 := TI.zero t nqa_31
          have tfa_32 := TI.raw (e := (.inr (7, [.null, .int 0, .int 0, .null]))) t tzqa_31
          have ofa_32 : Fr [0, 4, 12, 18, 50, 12001, 12006, 18002] τ f (hu f qa_31 (.inr (7, [.null, .int 0, .int 0, .null]))) := Fr.new o nqa_31 tzqa_31 (by decide)
          have nfqa_31 := nfr hfx nqa_31
          have rwqa_31 : hu f qa_31 (.inr (7, [.null, .int 0, .int 0, .null])) qa_31 = some (.inr (7, [.null, .int 0, .int 0, .null])) := hu_self _ _ _
          have ka_33 := atp.new k_u0_1 nqa_31 (e := (.inr (7, [.null, .int 0, .int 0, .null])))
          have ka_34 := atp.new k_u0_7 nqa_31 (e := (.inr (7, [.null, .int 0, .int 0, .null])))
          have ka_35 := atp.new k_bo_0 nqa_31 (e := (.inr (7, [.null, .int 0, .int 0, .null])))
          have ka_36 := atp.new k_bo_5 nqa_31 (e := (.inr (7, [.null, .int 0, .int 0, .null])))
          have ka_37 := atp.new k_bo_1 nqa_31 (e := (.inr (7, [.null, .int 0, .int 0, .null])))
          have ka_38 := atp.new k_bo_3 nqa_31 (e := (.inr (7, [.null, .int 0, .int 0, .null])))
          have ka_39 := atp.new k_sn_0 nqa_31 (e := (.inr (7, [.null, .int 0, .int 0, .null])))
          have ka_40 := atp.new k_sn_1 nqa_31 (e := (.inr (7, [.null, .int 0, .int 0, .null])))
          have ka_41 := atp.new k_sq_0 nqa_31 (e := (.inr (7, [.null, .int 0, .int 0, .null])))
          have ka_42 := atp.new k_sq_1 nqa_31 (e := (.inr (7, [.null, .int 0, .int 0, .null])))
          have ka_43 := atp.new hRqn nqa_31 (e := (.inr (7, [.null, .int 0, .int 0, .null])))
          have ka_44 := atp.new hRbf nqa_31 (e := (.inr (7, [.null, .int 0, .int 0, .null])))
          have ka_45 := atp.new hRqa nqa_31 (e := (.inr (7, [.null, .int 0, .int 0, .null])))
          have ka_46 := atp.new hRfq nqa_31 (e := (.inr (7, [.null, .int 0, .int 0, .null])))
          have ka_47 := FX.new hfx nqa_31 (e := (.inr (7, [.null, .int 0, .int 0, .null])))
          have ka_48 := atp.new kwS1 nqa_31 (e := (.inr (7, [.null, .int 0, .int 0, .null])))
          have ka_49 := atp.new krS1 nqa_31 (e := (.inr (7, [.null, .int 0, .int 0, .null])))
          have ka_50 := atp.new kxS1 nqa_31 (e := (.inr (7, [.null, .int 0, .int 0, .null])))
          have ka_51 := atp.new kyS1 nqa_31 (e := (.inr (7, [.null, .int 0, .int 0, .null])))
          generalize hu f qa_31 (.inr (7, [.null, .int 0, .int 0, .null])) = fa_32 at h tfa_32 ofa_32 rwqa_31 ka_33 ka_34 ka_35 ka_36 ka_37 ka_38 ka_39 ka_40 ka_41 ka_42 ka_43 ka_44 ka_45 ka_46 ka_47 ka_48 ka_49 ka_50 ka_51
          refine lv_dup hx hb dX10_start_79 rfl ?_
          refine lv_aload hx hb dX10_start_80 (lv_at hl 0 rfl) ?_
          refine t_getfd C h tfa_32 tqa_6 (by decide) wf_1 (v := .ref wqS1) ka_48 fl_X10_135 dX10_start_82 ?_
          refine lv_iload_n hx hb dX10_start_85 rfl (lv_at hl 3 rfl) ?_
          refine lv_iload_n hx hb dX10_start_86 rfl (lv_at hl 4 rfl) ?_
          refine k_v (r_I C h hl (As := [.ref wqS1, .int u2, .int u3]) (rest := [.ref qa_31, .int u1, .ref bo]) (c_StepSet l D G b0 fa_32 qa_31 wqS1 wwS1 u2 u3 rwqa_31 (eqc_some ka_49)) mk_X6_init rfl w_614 w_534 w_535 ⟨Nat.le_of_ble_eq_true rfl, Nat.le_of_ble_eq_true rfl⟩ rfl (Nat.le_of_ble_eq_true rfl) ⟨Nat.le_of_ble_eq_true rfl, Nat.le_of_ble_eq_true rfl⟩ rfl dX10_start_87) h (fun fa_52 H locs pfa_52 h => ?_)
          obtain ⟨qa_53, nqa_53, efa_52⟩ := pfa_52
          obtain ⟨τfa_52, exfa_52, tfa_52, ofa_52, tqqa_31, tqqa_53, kafa_52, kbfa_52, kcfa_52, kdfa_52, hnfa_52, kefa_52⟩ := mkset tfa_32 ofa_32 (by decide) tzqa_31 rwqa_31 nqa_53 efa_52 (row_iv2 tfa_32 twS1 ka_49) ia_17 ia_28
          have ka_54 := atp.tr ka_33 (hnfa_52 _ (fun z_ => by have h_ := hu0; rw [z_, tzqa_31] at h_; exact absurd h_ (by decide)) (atp.nn ka_33))
          have ka_55 := atp.tr ka_34 (hnfa_52 _ (fun z_ => by have h_ := hu0; rw [z_, tzqa_31] at h_; exact absurd h_ (by decide)) (atp.nn ka_34))
          have ka_56 := atp.tr ka_35 (hnfa_52 _ (fun z_ => by have h_ := hbo; rw [z_, tzqa_31] at h_; exact absurd h_ (by decide)) (atp.nn ka_35))
          have ka_57 := atp.tr ka_36 (hnfa_52 _ (fun z_ => by have h_ := hbo; rw [z_, tzqa_31] at h_; exact absurd h_ (by decide)) (atp.nn ka_36))
          have ka_58 := atp.tr ka_37 (hnfa_52 _ (fun z_ => by have h_ := hbo; rw [z_, tzqa_31] at h_; exact absurd h_ (by decide)) (atp.nn ka_37))
          have ka_59 := atp.tr ka_38 (hnfa_52 _ (fun z_ => by have h_ := hbo; rw [z_, tzqa_31] at h_; exact absurd h_ (by decide)) (atp.nn ka_38))
          have ka_60 := atp.tr ka_39 (hnfa_52 _ (fun z_ => by have h_ := hsn; rw [z_, tzqa_31] at h_; exact absurd h_ (by decide)) (atp.nn ka_39))
          have ka_61 := atp.tr ka_40 (hnfa_52 _ (fun z_ => by have h_ := hsn; rw [z_, tzqa_31] at h_; exact absurd h_ (by decide)) (atp.nn ka_40))
          have ka_62 := atp.tr ka_41 (hnfa_52 _ (fun z_ => by have h_ := hsq; rw [z_, tzqa_31] at h_; exact absurd h_ (by decide)) (atp.nn ka_41))
          have ka_63 := atp.tr ka_42 (hnfa_52 _ (fun z_ => by have h_ := hsq; rw [z_, tzqa_31] at h_; exact absurd h_ (by decide)) (atp.nn ka_42))
          have ka_64 := atp.tr ka_43 (hnfa_52 _ (fun z_ => by have h_ := hqn; rw [z_, tzqa_31] at h_; exact absurd h_ (by decide)) (atp.nn ka_43))
          have ka_65 := atp.tr ka_44 (hnfa_52 _ (fun z_ => by have h_ := hbf; rw [z_, tzqa_31] at h_; exact absurd h_ (by decide)) (atp.nn ka_44))
          have ka_66 := atp.tr ka_45 (hnfa_52 _ (fun z_ => by have h_ := hqa; rw [z_, tzqa_31] at h_; exact absurd h_ (by decide)) (atp.nn ka_45))
          have ka_67 := atp.tr ka_46 (hnfa_52 _ (fun z_ => by have h_ := hfq; rw [z_, tzqa_31] at h_; exact absurd h_ (by decide)) (atp.nn ka_46))
          have ka_68 : FX [qa, sq, bo, qn, sn, fq] f fa_52 := fun q_ hq_ h0_ => by have e_ := ka_47 q_ hq_ h0_; rw [hnfa_52 q_ (nfqa_31 q_ hq_ h0_) (by rw [e_]; exact h0_), e_]
          have ka_69 := atp.tr ka_48 (hnfa_52 _ (fun z_ => by have h_ := tqa_6; rw [z_, tzqa_31] at h_; exact absurd h_ (by decide)) (atp.nn ka_48))
          have ka_70 := atp.tr ka_49 (hnfa_52 _ (fun z_ => by have h_ := twS1; rw [z_, tzqa_31] at h_; exact absurd h_ (by decide)) (atp.nn ka_49))
          have ka_71 := atp.tr ka_50 (hnfa_52 _ (fun z_ => by have h_ := tqa_6; rw [z_, tzqa_31] at h_; exact absurd h_ (by decide)) (atp.nn ka_50))
          have ka_72 := atp.tr ka_51 (hnfa_52 _ (fun z_ => by have h_ := tqa_6; rw [z_, tzqa_31] at h_; exact absurd h_ (by decide)) (atp.nn ka_51))
          have Ofa_52 : Fr [0, 4, 12, 18, 50, 12001, 12006, 18002] τ f fa_52 := ofa_52
          have xfa_52 : Ex τ τfa_52 := exfa_52
          have ha_73 : τfa_52 bo = 12 := Ex.at exfa_52 hbo (by decide)
          have ha_74 : τfa_52 u0 = 10 := Ex.at exfa_52 hu0 (by decide)
          have ha_75 : τfa_52 qa_6 = 1 := Ex.at exfa_52 tqa_6 (by decide)
          have ha_76 : τfa_52 fq = 50 := Ex.at exfa_52 hfq (by decide)
          have ha_77 : τfa_52 sn = 15 := Ex.at exfa_52 hsn (by decide)
          have ha_78 : τfa_52 bf = 17 := Ex.at exfa_52 hbf (by decide)
          have ha_79 : τfa_52 qn = 4 := Ex.at exfa_52 hqn (by decide)
          have ha_80 : τfa_52 qa = 4 := Ex.at exfa_52 hqa (by decide)
          have ha_81 : τfa_52 wqS1 = 2 := Ex.at exfa_52 twS1 (by decide)
          have ha_82 : τfa_52 sq = 18 := Ex.at exfa_52 hsq (by decide)
          have ofa_52z := Fr.rf [0, 4, 12, 18, 50, 12001, 12006, 18002] τfa_52 fa_52
          obtain ⟨_, ra_83⟩ := t_rec tfa_52 ha_73 (by decide) wf_12
          refine k_v (r_V C h hl (As := [.int u1, .ref qa_31]) (rest := []) (s_X0_replaceX l D G b0 τfa_52 fa_52 tfa_52 bo ha_73 u1 hu1 qa_31 tqqa_31 sq ha_82 ac hac ka_56 nx hnx ka_57 sn ha_77 ka_58 bf ha_78 ka_59 qn ha_79 ka_60 sz hsz ka_61 qa ha_80 ka_62 rn ka_64 rf ka_65 ra ka_66 esq hab (by omega) (by omega)) ra_83 (Cn := RX0) (T := TX0) (N := 6) rfl rfl mk_X0_replace w_632 w_633 w_634 w_635 ⟨Nat.le_of_ble_eq_true rfl, Nat.le_of_ble_eq_true rfl⟩ rfl (Nat.le_of_ble_eq_true rfl) ⟨Nat.le_of_ble_eq_true rfl, Nat.le_of_ble_eq_true rfl⟩ rfl dX10_start_90) h (fun fa_85 H locs pa_86 h => ?_)
          obtain ⟨tfa_85, ogfa_85, ⟨nx1_fa_85, kpu0_5fa_85, ipu0_5fa_85, rpu0_5fa_85⟩, ⟨ac1_fa_85, kpu0_0fa_85, ipu0_0fa_85, rpu0_0fa_85⟩, ⟨sza_fa_85, kpsq_1fa_85, ipsq_1fa_85, rpsq_1fa_85⟩, ⟨ra1_fa_85, kRqafa_85, pRqafa_85⟩, ⟨rn1_fa_85, kRqnfa_85, pRqnfa_85⟩, fxfa_85⟩ := pa_86
          have ofa_85 : Fr [0, 4, 12, 18, 50, 12001, 12006, 18002] τfa_52 fa_52 fa_85 := Fr.tr ofa_52z ogfa_85 (by decide) (by decide)
          have ka_87 := atp.fr ka_54 ogfa_85 ha_74 (by decide)
          have ka_88 := atp.fr ka_55 ogfa_85 ha_74 (by decide)
          have ka_89 := atp.fk ka_58 ogfa_85 ha_73 (by decide) (by decide)
          have ka_90 := atp.fk ka_59 ogfa_85 ha_73 (by decide) (by decide)
          have ka_91 := atp.fr ka_60 ogfa_85 ha_77 (by decide)
          have ka_92 := atp.fr ka_61 ogfa_85 ha_77 (by decide)
          have ka_93 := atp.fk ka_62 ogfa_85 ha_82 (by decide) (by decide)
          have ka_94 := atp.fr ka_65 ogfa_85 ha_78 (by decide)
          have ka_95 := atp.fr ka_67 ogfa_85 ha_76 (by decide)
          have ka_96 := FX.tr ka_68 fxfa_85 (by simp)
          have ka_97 := atp.fr ka_69 ogfa_85 ha_75 (by decide)
          have ka_98 := atp.fr ka_70 ogfa_85 ha_81 (by decide)
          have ka_99 := atp.fr ka_71 ogfa_85 ha_75 (by decide)
          have ka_100 := atp.fr ka_72 ogfa_85 ha_75 (by decide)
          have ka_101 := atp.fr kafa_52 ogfa_85 tqqa_31 (by decide)
          have ka_102 := atp.fr kbfa_52 ogfa_85 tqqa_53 (by decide)
          have ka_103 := atp.fr kcfa_52 ogfa_85 tqqa_31 (by decide)
          have ka_104 := atp.fr kdfa_52 ogfa_85 tqqa_31 (by decide)
          refine lv_bipush (v := 10) hx hb dX10_start_93 (by decide) ?_
          refine lv_aload hx hb dX10_start_95 (lv_at hl 0 rfl) ?_
          refine t_getfd C h tfa_85 ha_75 (by decide) wf_1 (v := .int sxS1) ka_99 fl_X10_125 dX10_start_97 ?_
          refine i_cmul hx hb dX10_start_100 (k := 10) rfl isxS1 (lo := 0) (hi := 90) (by decide) (fun za_105 eza_105 mza_105 iza_105 => ?_)
          refine lv_aload hx hb dX10_start_101 (lv_at hl 0 rfl) ?_
          refine t_getfd C h tfa_85 ha_75 (by decide) wf_1 (v := .int syS1) ka_100 fl_X10_120 dX10_start_103 ?_
          refine i_add hx hb dX10_start_106 iza_105 isyS1 (lo := 0) (hi := 99) (by decide) (fun za_106 eza_106 mza_106 iza_106 => ?_)
          exact u_iret C h hr hQ (⟨τfa_52, xfa_52, (iv_w iza_106 (by decide)), tfa_85, (Fr.tr Ofa_52 (Fr.cv xfa_52 ofa_85 (by decide) (fun _ h_ => h_)) (fun _ h_ => h_) (fun _ h_ => h_)), ⟨fun _ => (by omega), fun z_ => (z_ (by omega)).elim⟩, ⟨nx1_fa_85, kpu0_5fa_85, ipu0_5fa_85, ⟨fun _ => (by omega), fun z_ => (z_ (by omega)).elim⟩⟩, ⟨ac1_fa_85, kpu0_0fa_85, ipu0_0fa_85, ⟨fun _ => (by omega), fun z_ => (z_ (by omega)).elim⟩⟩, ⟨sz, ka_92, hsz, ⟨fun _ => (by omega), fun z_ => (z_ (by omega)).elim⟩⟩, ⟨sza_fa_85, kpsq_1fa_85, ipsq_1fa_85, ⟨fun _ => (by omega), fun z_ => (z_ (by omega)).elim⟩⟩, ⟨ra1_fa_85, kRqafa_85, ⟨fun _ => pRqafa_85, fun z_ => (z_ (by omega)).elim⟩⟩, ⟨rn1_fa_85, kRqnfa_85, ⟨fun _ => ⟨qa_31, ⟨tqqa_31, qa_53, wwS1, tqqa_53, ka_101, ka_102, (so_lo hwS1 (by omega)), by rw [show (fun k => so bk u1.toInt u2 u3 (10 * u1.toInt.toNat + k)) 8 = u2 from so_8 (by omega)]; exact ka_103, by rw [show (fun k => so bk u1.toInt u2 u3 (10 * u1.toInt.toNat + k)) 9 = u3 from so_9 (by omega)]; exact ka_104⟩, pRqnfa_85⟩, fun z_ => (z_ (by omega)).elim⟩⟩, ⟨rq, ka_95, (bump_no (by rw [if_neg (by omega), if_neg (by omega), if_neg (by omega)]))⟩, ka_96⟩) (Nat.le_of_ble_eq_true rfl) (Nat.le_of_ble_eq_true rfl) dX10_start_107
        · have ca_30 : u2.toInt = sxS1.toInt := congrArg Int32.toInt ca_29
          refine lv_iload_n hx hb dX10_start_56 rfl (lv_at hl 4 rfl) ?_
          refine lv_aload hx hb dX10_start_57 (lv_at hl 0 rfl) ?_
          refine t_getfd C h t tqa_6 (by decide) wf_1 (v := .int syS1) kyS1 fl_X10_120 dX10_start_59 ?_
          refine lv_icmp_ne (tgt := 71) hx hb dX10_start_62 (by decide) (fun ca_31 => ?_) (fun ca_31 => ?_)
          · have ca_32 : u3.toInt ≠ syS1.toInt := fun z_ => ca_31 (Int32.toInt_inj.mp z_)
            refine lv_aload_n hx hb dX10_start_71 rfl (lv_at hl 1 rfl) ?_
            refine t_getfd C h t hu0 (by decide) wf_10 (v := .ref bo) k_u0_1 fl_X10_19 dX10_start_72 ?_
            refine lv_iload_n hx hb dX10_start_75 rfl (lv_at hl 2 rfl) ?_
            refine q_new C h nw_X10_121 (Nat.le_of_ble_eq_true rfl) (Nat.le_of_ble_eq_true rfl) dX10_start_76 (fun qa_33 H nqa_33 h => ?_)
            have tzqa_33 := TI.zero t nqa_33
            have tfa_34 := TI.raw (e := (.inr (7, [.null, .int 0, .int 0, .null]))) t tzqa_33
            have ofa_34 : Fr [0, 4, 12, 18, 50, 12001, 12006, 18002] τ f (hu f qa_33 (.inr (7, [.null, .int 0, .int 0, .null]))) := Fr.new o nqa_33 tzqa_33 (by decide)
            have nfqa_33 := nfr hfx nqa_33
            have rwqa_33 : hu f qa_33 (.inr (7, [.null, .int 0, .int 0, .null])) qa_33 = some (.inr (7, [.null, .int 0, .int 0, .null])) := hu_self _ _ _
            have ka_35 := atp.new k_u0_1 nqa_33 (e := (.inr (7, [.null, .int 0, .int 0, .null])))
            have ka_36 := atp.new k_u0_7 nqa_33 (e := (.inr (7, [.null, .int 0, .int 0, .null])))
            have ka_37 := atp.new k_bo_0 nqa_33 (e := (.inr (7, [.null, .int 0, .int 0, .null])))
            have ka_38 := atp.new k_bo_5 nqa_33 (e := (.inr (7, [.null, .int 0, .int 0, .null])))
            have ka_39 := atp.new k_bo_1 nqa_33 (e := (.inr (7, [.null, .int 0, .int 0, .null])))
            have ka_40 := atp.new k_bo_3 nqa_33 (e := (.inr (7, [.null, .int 0, .int 0, .null])))
            have ka_41 := atp.new k_sn_0 nqa_33 (e := (.inr (7, [.null, .int 0, .int 0, .null])))
            have ka_42 := atp.new k_sn_1 nqa_33 (e := (.inr (7, [.null, .int 0, .int 0, .null])))
            have ka_43 := atp.new k_sq_0 nqa_33 (e := (.inr (7, [.null, .int 0, .int 0, .null])))
            have ka_44 := atp.new k_sq_1 nqa_33 (e := (.inr (7, [.null, .int 0, .int 0, .null])))
            have ka_45 := atp.new hRqn nqa_33 (e := (.inr (7, [.null, .int 0, .int 0, .null])))
            have ka_46 := atp.new hRbf nqa_33 (e := (.inr (7, [.null, .int 0, .int 0, .null])))
            have ka_47 := atp.new hRqa nqa_33 (e := (.inr (7, [.null, .int 0, .int 0, .null])))
            have ka_48 := atp.new hRfq nqa_33 (e := (.inr (7, [.null, .int 0, .int 0, .null])))
            have ka_49 := FX.new hfx nqa_33 (e := (.inr (7, [.null, .int 0, .int 0, .null])))
            have ka_50 := atp.new kwS1 nqa_33 (e := (.inr (7, [.null, .int 0, .int 0, .null])))
            have ka_51 := atp.new krS1 nqa_33 (e := (.inr (7, [.null, .int 0, .int 0, .null])))
            have ka_52 := atp.new kxS1 nqa_33 (e := (.inr (7, [.null, .int 0, .int 0, .null])))
            have ka_53 := atp.new kyS1 nqa_33 (e := (.inr (7, [.null, .int 0, .int 0, .null])))
            generalize hu f qa_33 (.inr (7, [.null, .int 0, .int 0, .null])) = fa_34 at h tfa_34 ofa_34 rwqa_33 ka_35 ka_36 ka_37 ka_38 ka_39 ka_40 ka_41 ka_42 ka_43 ka_44 ka_45 ka_46 ka_47 ka_48 ka_49 ka_50 ka_51 ka_52 ka_53
            refine lv_dup hx hb dX10_start_79 rfl ?_
            refine lv_aload hx hb dX10_start_80 (lv_at hl 0 rfl) ?_
            refine t_getfd C h tfa_34 tqa_6 (by decide) wf_1 (v := .ref wqS1) ka_50 fl_X10_135 dX10_start_82 ?_
            refine lv_iload_n hx hb dX10_start_85 rfl (lv_at hl 3 rfl) ?_
            refine lv_iload_n hx hb dX10_start_86 rfl (lv_at hl 4 rfl) ?_
            refine k_v (r_I C h hl (As := [.ref wqS1, .int u2, .int u3]) (rest := [.ref qa_33, .int u1, .ref bo]) (c_StepSet l D G b0 fa_34 qa_33 wqS1 wwS1 u2 u3 rwqa_33 (eqc_some ka_51)) mk_X6_init rfl w_614 w_534 w_535 ⟨Nat.le_of_ble_eq_true rfl, Nat.le_of_ble_eq_true rfl⟩ rfl (Nat.le_of_ble_eq_true rfl) ⟨Nat.le_of_ble_eq_true rfl, Nat.le_of_ble_eq_true rfl⟩ rfl dX10_start_87) h (fun fa_54 H locs pfa_54 h => ?_)
            obtain ⟨qa_55, nqa_55, efa_54⟩ := pfa_54
            obtain ⟨τfa_54, exfa_54, tfa_54, ofa_54, tqqa_33, tqqa_55, kafa_54, kbfa_54, kcfa_54, kdfa_54, hnfa_54, kefa_54⟩ := mkset tfa_34 ofa_34 (by decide) tzqa_33 rwqa_33 nqa_55 efa_54 (row_iv2 tfa_34 twS1 ka_51) ia_17 ia_28
            have ka_56 := atp.tr ka_35 (hnfa_54 _ (fun z_ => by have h_ := hu0; rw [z_, tzqa_33] at h_; exact absurd h_ (by decide)) (atp.nn ka_35))
            have ka_57 := atp.tr ka_36 (hnfa_54 _ (fun z_ => by have h_ := hu0; rw [z_, tzqa_33] at h_; exact absurd h_ (by decide)) (atp.nn ka_36))
            have ka_58 := atp.tr ka_37 (hnfa_54 _ (fun z_ => by have h_ := hbo; rw [z_, tzqa_33] at h_; exact absurd h_ (by decide)) (atp.nn ka_37))
            have ka_59 := atp.tr ka_38 (hnfa_54 _ (fun z_ => by have h_ := hbo; rw [z_, tzqa_33] at h_; exact absurd h_ (by decide)) (atp.nn ka_38))
            have ka_60 := atp.tr ka_39 (hnfa_54 _ (fun z_ => by have h_ := hbo; rw [z_, tzqa_33] at h_; exact absurd h_ (by decide)) (atp.nn ka_39))
            have ka_61 := atp.tr ka_40 (hnfa_54 _ (fun z_ => by have h_ := hbo; rw [z_, tzqa_33] at h_; exact absurd h_ (by decide)) (atp.nn ka_40))
            have ka_62 := atp.tr ka_41 (hnfa_54 _ (fun z_ => by have h_ := hsn; rw [z_, tzqa_33] at h_; exact absurd h_ (by decide)) (atp.nn ka_41))
            have ka_63 := atp.tr ka_42 (hnfa_54 _ (fun z_ => by have h_ := hsn; rw [z_, tzqa_33] at h_; exact absurd h_ (by decide)) (atp.nn ka_42))
            have ka_64 := atp.tr ka_43 (hnfa_54 _ (fun z_ => by have h_ := hsq; rw [z_, tzqa_33] at h_; exact absurd h_ (by decide)) (atp.nn ka_43))
            have ka_65 := atp.tr ka_44 (hnfa_54 _ (fun z_ => by have h_ := hsq; rw [z_, tzqa_33] at h_; exact absurd h_ (by decide)) (atp.nn ka_44))
            have ka_66 := atp.tr ka_45 (hnfa_54 _ (fun z_ => by have h_ := hqn; rw [z_, tzqa_33] at h_; exact absurd h_ (by decide)) (atp.nn ka_45))
            have ka_67 := atp.tr ka_46 (hnfa_54 _ (fun z_ => by have h_ := hbf; rw [z_, tzqa_33] at h_; exact absurd h_ (by decide)) (atp.nn ka_46))
            have ka_68 := atp.tr ka_47 (hnfa_54 _ (fun z_ => by have h_ := hqa; rw [z_, tzqa_33] at h_; exact absurd h_ (by decide)) (atp.nn ka_47))
            have ka_69 := atp.tr ka_48 (hnfa_54 _ (fun z_ => by have h_ := hfq; rw [z_, tzqa_33] at h_; exact absurd h_ (by decide)) (atp.nn ka_48))
            have ka_70 : FX [qa, sq, bo, qn, sn, fq] f fa_54 := fun q_ hq_ h0_ => by have e_ := ka_49 q_ hq_ h0_; rw [hnfa_54 q_ (nfqa_33 q_ hq_ h0_) (by rw [e_]; exact h0_), e_]
            have ka_71 := atp.tr ka_50 (hnfa_54 _ (fun z_ => by have h_ := tqa_6; rw [z_, tzqa_33] at h_; exact absurd h_ (by decide)) (atp.nn ka_50))
            have ka_72 := atp.tr ka_51 (hnfa_54 _ (fun z_ => by have h_ := twS1; rw [z_, tzqa_33] at h_; exact absurd h_ (by decide)) (atp.nn ka_51))
            have ka_73 := atp.tr ka_52 (hnfa_54 _ (fun z_ => by have h_ := tqa_6; rw [z_, tzqa_33] at h_; exact absurd h_ (by decide)) (atp.nn ka_52))
            have ka_74 := atp.tr ka_53 (hnfa_54 _ (fun z_ => by have h_ := tqa_6; rw [z_, tzqa_33] at h_; exact absurd h_ (by decide)) (atp.nn ka_53))
            have Ofa_54 : Fr [0, 4, 12, 18, 50, 12001, 12006, 18002] τ f fa_54 := ofa_54
            have xfa_54 : Ex τ τfa_54 := exfa_54
            have ha_75 : τfa_54 bo = 12 := Ex.at exfa_54 hbo (by decide)
            have ha_76 : τfa_54 u0 = 10 := Ex.at exfa_54 hu0 (by decide)
            have ha_77 : τfa_54 qa_6 = 1 := Ex.at exfa_54 tqa_6 (by decide)
            have ha_78 : τfa_54 fq = 50 := Ex.at exfa_54 hfq (by decide)
            have ha_79 : τfa_54 sn = 15 := Ex.at exfa_54 hsn (by decide)
            have ha_80 : τfa_54 bf = 17 := Ex.at exfa_54 hbf (by decide)
            have ha_81 : τfa_54 qn = 4 := Ex.at exfa_54 hqn (by decide)
            have ha_82 : τfa_54 qa = 4 := Ex.at exfa_54 hqa (by decide)
            have ha_83 : τfa_54 wqS1 = 2 := Ex.at exfa_54 twS1 (by decide)
            have ha_84 : τfa_54 sq = 18 := Ex.at exfa_54 hsq (by decide)
            have ofa_54z := Fr.rf [0, 4, 12, 18, 50, 12001, 12006, 18002] τfa_54 fa_54
            obtain ⟨_, ra_85⟩ := t_rec tfa_54 ha_75 (by decide) wf_12
            refine k_v (r_V C h hl (As := [.int u1, .ref qa_33]) (rest := []) (s_X0_replaceX l D G b0 τfa_54 fa_54 tfa_54 bo ha_75 u1 hu1 qa_33 tqqa_33 sq ha_84 ac hac ka_58 nx hnx ka_59 sn ha_79 ka_60 bf ha_80 ka_61 qn ha_81 ka_62 sz hsz ka_63 qa ha_82 ka_64 rn ka_66 rf ka_67 ra ka_68 esq hab (by omega) (by omega)) ra_85 (Cn := RX0) (T := TX0) (N := 6) rfl rfl mk_X0_replace w_632 w_633 w_634 w_635 ⟨Nat.le_of_ble_eq_true rfl, Nat.le_of_ble_eq_true rfl⟩ rfl (Nat.le_of_ble_eq_true rfl) ⟨Nat.le_of_ble_eq_true rfl, Nat.le_of_ble_eq_true rfl⟩ rfl dX10_start_90) h (fun fa_87 H locs pa_88 h => ?_)
            obtain ⟨tfa_87, ogfa_87, ⟨nx1_fa_87, kpu0_5fa_87, ipu0_5fa_87, rpu0_5fa_87⟩, ⟨ac1_fa_87, kpu0_0fa_87, ipu0_0fa_87, rpu0_0fa_87⟩, ⟨sza_fa_87, kpsq_1fa_87, ipsq_1fa_87, rpsq_1fa_87⟩, ⟨ra1_fa_87, kRqafa_87, pRqafa_87⟩, ⟨rn1_fa_87, kRqnfa_87, pRqnfa_87⟩, fxfa_87⟩ := pa_88
            have ofa_87 : Fr [0, 4, 12, 18, 50, 12001, 12006, 18002] τfa_54 fa_54 fa_87 := Fr.tr ofa_54z ogfa_87 (by decide) (by decide)
            have ka_89 := atp.fr ka_56 ogfa_87 ha_76 (by decide)
            have ka_90 := atp.fr ka_57 ogfa_87 ha_76 (by decide)
            have ka_91 := atp.fk ka_60 ogfa_87 ha_75 (by decide) (by decide)
            have ka_92 := atp.fk ka_61 ogfa_87 ha_75 (by decide) (by decide)
            have ka_93 := atp.fr ka_62 ogfa_87 ha_79 (by decide)
            have ka_94 := atp.fr ka_63 ogfa_87 ha_79 (by decide)
            have ka_95 := atp.fk ka_64 ogfa_87 ha_84 (by decide) (by decide)
            have ka_96 := atp.fr ka_67 ogfa_87 ha_80 (by decide)
            have ka_97 := atp.fr ka_69 ogfa_87 ha_78 (by decide)
            have ka_98 := FX.tr ka_70 fxfa_87 (by simp)
            have ka_99 := atp.fr ka_71 ogfa_87 ha_77 (by decide)
            have ka_100 := atp.fr ka_72 ogfa_87 ha_83 (by decide)
            have ka_101 := atp.fr ka_73 ogfa_87 ha_77 (by decide)
            have ka_102 := atp.fr ka_74 ogfa_87 ha_77 (by decide)
            have ka_103 := atp.fr kafa_54 ogfa_87 tqqa_33 (by decide)
            have ka_104 := atp.fr kbfa_54 ogfa_87 tqqa_55 (by decide)
            have ka_105 := atp.fr kcfa_54 ogfa_87 tqqa_33 (by decide)
            have ka_106 := atp.fr kdfa_54 ogfa_87 tqqa_33 (by decide)
            refine lv_bipush (v := 10) hx hb dX10_start_93 (by decide) ?_
            refine lv_aload hx hb dX10_start_95 (lv_at hl 0 rfl) ?_
            refine t_getfd C h tfa_87 ha_77 (by decide) wf_1 (v := .int sxS1) ka_101 fl_X10_125 dX10_start_97 ?_
            refine i_cmul hx hb dX10_start_100 (k := 10) rfl isxS1 (lo := 0) (hi := 90) (by decide) (fun za_107 eza_107 mza_107 iza_107 => ?_)
            refine lv_aload hx hb dX10_start_101 (lv_at hl 0 rfl) ?_
            refine t_getfd C h tfa_87 ha_77 (by decide) wf_1 (v := .int syS1) ka_102 fl_X10_120 dX10_start_103 ?_
            refine i_add hx hb dX10_start_106 iza_107 isyS1 (lo := 0) (hi := 99) (by decide) (fun za_108 eza_108 mza_108 iza_108 => ?_)
            exact u_iret C h hr hQ (⟨τfa_54, xfa_54, (iv_w iza_108 (by decide)), tfa_87, (Fr.tr Ofa_54 (Fr.cv xfa_54 ofa_87 (by decide) (fun _ h_ => h_)) (fun _ h_ => h_) (fun _ h_ => h_)), ⟨fun _ => (by omega), fun z_ => (z_ (by omega)).elim⟩, ⟨nx1_fa_87, kpu0_5fa_87, ipu0_5fa_87, ⟨fun _ => (by omega), fun z_ => (z_ (by omega)).elim⟩⟩, ⟨ac1_fa_87, kpu0_0fa_87, ipu0_0fa_87, ⟨fun _ => (by omega), fun z_ => (z_ (by omega)).elim⟩⟩, ⟨sz, ka_94, hsz, ⟨fun _ => (by omega), fun z_ => (z_ (by omega)).elim⟩⟩, ⟨sza_fa_87, kpsq_1fa_87, ipsq_1fa_87, ⟨fun _ => (by omega), fun z_ => (z_ (by omega)).elim⟩⟩, ⟨ra1_fa_87, kRqafa_87, ⟨fun _ => pRqafa_87, fun z_ => (z_ (by omega)).elim⟩⟩, ⟨rn1_fa_87, kRqnfa_87, ⟨fun _ => ⟨qa_33, ⟨tqqa_33, qa_55, wwS1, tqqa_55, ka_103, ka_104, (so_lo hwS1 (by omega)), by rw [show (fun k => so bk u1.toInt u2 u3 (10 * u1.toInt.toNat + k)) 8 = u2 from so_8 (by omega)]; exact ka_105, by rw [show (fun k => so bk u1.toInt u2 u3 (10 * u1.toInt.toNat + k)) 9 = u3 from so_9 (by omega)]; exact ka_106⟩, pRqnfa_87⟩, fun z_ => (z_ (by omega)).elim⟩⟩, ⟨rq, ka_97, (bump_no (by rw [if_neg (by omega), if_neg (by omega), if_neg (by omega)]))⟩, ka_98⟩) (Nat.le_of_ble_eq_true rfl) (Nat.le_of_ble_eq_true rfl) dX10_start_107
          · have ca_32 : u3.toInt = syS1.toInt := congrArg Int32.toInt ca_31
            refine lv_aload_n hx hb dX10_start_65 rfl (lv_at hl 1 rfl) ?_
            refine lv_iconst (v := 3) hx hb dX10_start_66 (by decide) ?_
            obtain ⟨_, ra_33⟩ := t_rec t hu0 (by decide) wf_10
            refine k_i (r_V C h hl (As := [.int 3]) (rest := []) (s_X10_refuseX l D G b0 τ f t u0 hu0 3 (iv_w (iv_k (x := 3) (k := 3) rfl) (by decide)) fq hfq k_u0_7 rq hRfq) ra_33 (Cn := RX10) (T := TX10) (N := 10) rfl rfl mk_X10_refuse w_519 w_521 w_8 w_522 ⟨Nat.le_of_ble_eq_true rfl, Nat.le_of_ble_eq_true rfl⟩ rfl (Nat.le_of_ble_eq_true rfl) ⟨Nat.le_of_ble_eq_true rfl, Nat.le_of_ble_eq_true rfl⟩ rfl dX10_start_67) h (fun ra_34 fa_35 H locs pa_36 h => ?_)
            obtain ⟨ira_34, tfa_35, ogfa_35, ⟨rq1_fa_35, kRfqfa_35, pRfqfa_35⟩, fxfa_35⟩ := pa_36
            have ofa_35 : Fr [0, 4, 12, 18, 50, 12001, 12006, 18002] τ f fa_35 := Fr.tr o ogfa_35 (by decide) (by decide)
            have ka_37 := atp.fr k_u0_1 ogfa_35 hu0 (by decide)
            have ka_38 := atp.fr k_u0_7 ogfa_35 hu0 (by decide)
            have ka_39 := atp.fr k_bo_0 ogfa_35 hbo (by decide)
            have ka_40 := atp.fr k_bo_5 ogfa_35 hbo (by decide)
            have ka_41 := atp.fr k_bo_1 ogfa_35 hbo (by decide)
            have ka_42 := atp.fr k_bo_3 ogfa_35 hbo (by decide)
            have ka_43 := atp.fr k_sn_0 ogfa_35 hsn (by decide)
            have ka_44 := atp.fr k_sn_1 ogfa_35 hsn (by decide)
            have ka_45 := atp.fr k_sq_0 ogfa_35 hsq (by decide)
            have ka_46 := atp.fr k_sq_1 ogfa_35 hsq (by decide)
            have ka_47 := atp.fr hRqn ogfa_35 hqn (by decide)
            have ka_48 := atp.fr hRbf ogfa_35 hbf (by decide)
            have ka_49 := atp.fr hRqa ogfa_35 hqa (by decide)
            have ka_50 := FX.tr hfx fxfa_35 (by simp)
            have ka_51 := atp.fr kwS1 ogfa_35 tqa_6 (by decide)
            have ka_52 := atp.fr krS1 ogfa_35 twS1 (by decide)
            have ka_53 := atp.fr kxS1 ogfa_35 tqa_6 (by decide)
            have ka_54 := atp.fr kyS1 ogfa_35 tqa_6 (by decide)
            exact u_iret C h hr hQ (⟨τ, (Ex.rf τ), (iv_w ira_34 (by decide)), tfa_35, ofa_35, ⟨fun z_ => absurd z_ (by omega), fun _ => (by omega)⟩, ⟨nx, ka_40, hnx, ⟨fun z_ => absurd z_ (by omega), fun _ => rfl⟩⟩, ⟨ac, ka_39, hac, ⟨fun z_ => absurd z_ (by omega), fun _ => rfl⟩⟩, ⟨sz, ka_44, hsz, ⟨fun z_ => absurd z_ (by omega), fun _ => rfl⟩⟩, ⟨sa, ka_46, hsa, ⟨fun z_ => absurd z_ (by omega), fun _ => rfl⟩⟩, ⟨ra, ka_49, ⟨fun z_ => absurd z_ (by omega), fun _ => rfl⟩⟩, ⟨rn, ka_47, ⟨fun z_ => absurd z_ (by omega), fun _ => rfl⟩⟩, ⟨rq1_fa_35, kRfqfa_35, (bump_eq (c := 3) pRfqfa_35 rfl (by decide) (by rw [if_neg (by omega), if_neg (by omega), if_pos (by omega)]))⟩, ka_50⟩) (Nat.le_of_ble_eq_true rfl) (Nat.le_of_ble_eq_true rfl) dX10_start_70
      · have ca_24 : ra_18.toInt = 0 := congrArg Int32.toInt ca_23
        have ia_25 : iv ra_18 0 0 := iv_Q ca_24 ira_18 (iv_k (x := 0) (k := 0) rfl) (by decide)
        have ia_26 := czra_18 ca_24
        refine lv_aload_n hx hb dX10_start_41 rfl (lv_at hl 1 rfl) ?_
        refine lv_iconst (v := 1) hx hb dX10_start_42 (by decide) ?_
        obtain ⟨_, ra_27⟩ := t_rec t hu0 (by decide) wf_10
        refine k_i (r_V C h hl (As := [.int 1]) (rest := []) (s_X10_refuseX l D G b0 τ f t u0 hu0 1 (iv_w (iv_k (x := 1) (k := 1) rfl) (by decide)) fq hfq k_u0_7 rq hRfq) ra_27 (Cn := RX10) (T := TX10) (N := 10) rfl rfl mk_X10_refuse w_519 w_521 w_8 w_522 ⟨Nat.le_of_ble_eq_true rfl, Nat.le_of_ble_eq_true rfl⟩ rfl (Nat.le_of_ble_eq_true rfl) ⟨Nat.le_of_ble_eq_true rfl, Nat.le_of_ble_eq_true rfl⟩ rfl dX10_start_43) h (fun ra_28 fa_29 H locs pa_30 h => ?_)
        obtain ⟨ira_28, tfa_29, ogfa_29, ⟨rq1_fa_29, kRfqfa_29, pRfqfa_29⟩, fxfa_29⟩ := pa_30
        have ofa_29 : Fr [0, 4, 12, 18, 50, 12001, 12006, 18002] τ f fa_29 := Fr.tr o ogfa_29 (by decide) (by decide)
        have ka_31 := atp.fr k_u0_1 ogfa_29 hu0 (by decide)
        have ka_32 := atp.fr k_u0_7 ogfa_29 hu0 (by decide)
        have ka_33 := atp.fr k_bo_0 ogfa_29 hbo (by decide)
        have ka_34 := atp.fr k_bo_5 ogfa_29 hbo (by decide)
        have ka_35 := atp.fr k_bo_1 ogfa_29 hbo (by decide)
        have ka_36 := atp.fr k_bo_3 ogfa_29 hbo (by decide)
        have ka_37 := atp.fr k_sn_0 ogfa_29 hsn (by decide)
        have ka_38 := atp.fr k_sn_1 ogfa_29 hsn (by decide)
        have ka_39 := atp.fr k_sq_0 ogfa_29 hsq (by decide)
        have ka_40 := atp.fr k_sq_1 ogfa_29 hsq (by decide)
        have ka_41 := atp.fr hRqn ogfa_29 hqn (by decide)
        have ka_42 := atp.fr hRbf ogfa_29 hbf (by decide)
        have ka_43 := atp.fr hRqa ogfa_29 hqa (by decide)
        have ka_44 := FX.tr hfx fxfa_29 (by simp)
        have ka_45 := atp.fr kwS1 ogfa_29 tqa_6 (by decide)
        have ka_46 := atp.fr krS1 ogfa_29 twS1 (by decide)
        have ka_47 := atp.fr kxS1 ogfa_29 tqa_6 (by decide)
        have ka_48 := atp.fr kyS1 ogfa_29 tqa_6 (by decide)
        exact u_iret C h hr hQ (⟨τ, (Ex.rf τ), (iv_w ira_28 (by decide)), tfa_29, ofa_29, ⟨fun z_ => absurd z_ (by omega), fun _ => (by omega)⟩, ⟨nx, ka_34, hnx, ⟨fun z_ => absurd z_ (by omega), fun _ => rfl⟩⟩, ⟨ac, ka_33, hac, ⟨fun z_ => absurd z_ (by omega), fun _ => rfl⟩⟩, ⟨sz, ka_38, hsz, ⟨fun z_ => absurd z_ (by omega), fun _ => rfl⟩⟩, ⟨sa, ka_40, hsa, ⟨fun z_ => absurd z_ (by omega), fun _ => rfl⟩⟩, ⟨ra, ka_43, ⟨fun z_ => absurd z_ (by omega), fun _ => rfl⟩⟩, ⟨rn, ka_41, ⟨fun z_ => absurd z_ (by omega), fun _ => rfl⟩⟩, ⟨rq1_fa_29, kRfqfa_29, (bump_eq (c := 1) pRfqfa_29 rfl (by decide) (by rw [if_neg (by omega), if_pos (by omega)]))⟩, ka_44⟩) (Nat.le_of_ble_eq_true rfl) (Nat.le_of_ble_eq_true rfl) dX10_start_46
abbrev rm_s_X10_weighX : Room := { frames := 3, cells := 3, slots := 20, locals := 64 }
set_option maxRecDepth 100000 in
set_option maxHeartbeats 4000000 in
theorem s_X10_weighX (l : Launch) (D : va_G) (G : Nat → Nat) (b0 : Nat) (τ : Nat → Nat) (f : hM) (t : TI G 9 τ f) (u0 : Nat) (hu0 : τ u0 = 10) (u1 : Int32) (hu1 : iv u1 (-2147483648) 2147483647) (u2 : Int32) (hu2 : iv u2 (-2147483648) 2147483647) (u3 : Int32) (hu3 : iv u3 (-2147483648) 2147483647) (sq : Nat) (hsq : τ sq = 18) (bo : Nat) (hbo : τ bo = 12) (k_u0_1 : atp f u0 (fd 1 (.ref bo))) (fq : Nat) (hfq : τ fq = 50) (k_u0_7 : atp f u0 (fd 7 (.ref fq))) (ac : Int32) (hac : iv ac 0 12) (k_bo_0 : atp f bo (fd 0 (.int ac))) (nx : Int32) (hnx : iv nx 0 11) (k_bo_5 : atp f bo (fd 5 (.int nx))) (sn : Nat) (hsn : τ sn = 15) (k_bo_1 : atp f bo (fd 1 (.ref sn))) (bf : Nat) (hbf : τ bf = 17) (k_bo_3 : atp f bo (fd 3 (.ref bf))) (qn : Nat) (hqn : τ qn = 4) (k_sn_0 : atp f sn (fd 0 (.ref qn))) (sz : Int32) (hsz : iv sz 0 8) (k_sn_1 : atp f sn (fd 1 (.int sz))) (qa : Nat) (hqa : τ qa = 4) (k_sq_0 : atp f sq (fd 0 (.ref qa))) (sa : Int32) (hsa : iv sa 0 8) (k_sq_1 : atp f sq (fd 1 (.int sa))) (rn : Nat → Option Nat) (hRqn : atp f qn (eqr G 4 8 rn)) (rf : Nat → Option Nat) (hRbf : atp f bf (eqr G 3 12 rf)) (ra : Nat → Option Nat) (hRqa : atp f qa (eqr G 4 8 ra)) (rq : Nat → Int32) (hRfq : atp f fq (eqc (.inl (G 1, 4, .inl rq)))) (esq : rf nx.toInt.toNat = some sq) (hab : qn ≠ qa) (bk : Nat → Int32) (hb9 : ∀ k : Nat, k < 80 → iv (bk k) 0 9) (hSO : ∀ j : Nat, (j : Int) < sz.toInt → ∃ q, rn j = some q ∧ SO G τ f q (fun k => bk (10 * j + k))) (hPOS : ∀ j : Nat, (j : Int) < sz.toInt → ∃ k : Nat, k < 8 ∧ 0 < (bk (10 * j + k)).toInt)  : mI l yX10_weigh cX10_weigh 7 (.int) rm_s_X10_weighX D G b0 f [.ref u0, .int u1, .int u2, .int u3] (fun r f1 => (∃ τ1, Ex τ τ1 ∧ iv r (-1) 9 ∧ TI G 9 τ1 f1 ∧ Fr [0, 4, 12, 18, 50, 54, 12001, 12006, 18002] τ f f1 ∧ (((((0 ≤ u1.toInt ∧ u1.toInt < sz.toInt) ∧ (0 ≤ u2.toInt ∧ u2.toInt ≤ 7) ∧ (0 ≤ u3.toInt ∧ u3.toInt ≤ 9) ∧ ¬ (u3.toInt = 0 ∧ 0 < (bk (10 * u1.toInt + u2.toInt).toNat).toInt ∧ cnt bk u1.toInt 8 = 1) ∧ (bk (10 * u1.toInt + u2.toInt).toNat).toInt ≠ u3.toInt)) → r.toInt = (bk (10 * u1.toInt + u2.toInt).toNat).toInt) ∧ (¬ (((0 ≤ u1.toInt ∧ u1.toInt < sz.toInt) ∧ (0 ≤ u2.toInt ∧ u2.toInt ≤ 7) ∧ (0 ≤ u3.toInt ∧ u3.toInt ≤ 9) ∧ ¬ (u3.toInt = 0 ∧ 0 < (bk (10 * u1.toInt + u2.toInt).toNat).toInt ∧ cnt bk u1.toInt 8 = 1) ∧ (bk (10 * u1.toInt + u2.toInt).toNat).toInt ≠ u3.toInt)) → r.toInt = -1)) ∧ (∃ nx1 : Int32, atp f1 bo (fd 5 (.int nx1)) ∧ iv nx1 0 11 ∧ ((((0 ≤ u1.toInt ∧ u1.toInt < sz.toInt) ∧ (0 ≤ u2.toInt ∧ u2.toInt ≤ 7) ∧ (0 ≤ u3.toInt ∧ u3.toInt ≤ 9) ∧ ¬ (u3.toInt = 0 ∧ 0 < (bk (10 * u1.toInt + u2.toInt).toNat).toInt ∧ cnt bk u1.toInt 8 = 1) ∧ (bk (10 * u1.toInt + u2.toInt).toNat).toInt ≠ u3.toInt)) → nx1.toInt = (nx.toInt + 1) % 12) ∧ (¬ (((0 ≤ u1.toInt ∧ u1.toInt < sz.toInt) ∧ (0 ≤ u2.toInt ∧ u2.toInt ≤ 7) ∧ (0 ≤ u3.toInt ∧ u3.toInt ≤ 9) ∧ ¬ (u3.toInt = 0 ∧ 0 < (bk (10 * u1.toInt + u2.toInt).toNat).toInt ∧ cnt bk u1.toInt 8 = 1) ∧ (bk (10 * u1.toInt + u2.toInt).toNat).toInt ≠ u3.toInt)) → nx1.toInt = nx.toInt)) ∧ (∃ ac1 : Int32, atp f1 bo (fd 0 (.int ac1)) ∧ iv ac1 0 12 ∧ ((((0 ≤ u1.toInt ∧ u1.toInt < sz.toInt) ∧ (0 ≤ u2.toInt ∧ u2.toInt ≤ 7) ∧ (0 ≤ u3.toInt ∧ u3.toInt ≤ 9) ∧ ¬ (u3.toInt = 0 ∧ 0 < (bk (10 * u1.toInt + u2.toInt).toNat).toInt ∧ cnt bk u1.toInt 8 = 1) ∧ (bk (10 * u1.toInt + u2.toInt).toNat).toInt ≠ u3.toInt)) → ((ac.toInt = 12 → ac1.toInt = 12) ∧ (ac.toInt ≠ 12 → ac1.toInt = ac.toInt + 1))) ∧ (¬ (((0 ≤ u1.toInt ∧ u1.toInt < sz.toInt) ∧ (0 ≤ u2.toInt ∧ u2.toInt ≤ 7) ∧ (0 ≤ u3.toInt ∧ u3.toInt ≤ 9) ∧ ¬ (u3.toInt = 0 ∧ 0 < (bk (10 * u1.toInt + u2.toInt).toNat).toInt ∧ cnt bk u1.toInt 8 = 1) ∧ (bk (10 * u1.toInt + u2.toInt).toNat).toInt ≠ u3.toInt)) → ac1.toInt = ac.toInt)) ∧ (∃ szn : Int32, atp f1 sn (fd 1 (.int szn)) ∧ iv szn 0 8 ∧ ((((0 ≤ u1.toInt ∧ u1.toInt < sz.toInt) ∧ (0 ≤ u2.toInt ∧ u2.toInt ≤ 7) ∧ (0 ≤ u3.toInt ∧ u3.toInt ≤ 9) ∧ ¬ (u3.toInt = 0 ∧ 0 < (bk (10 * u1.toInt + u2.toInt).toNat).toInt ∧ cnt bk u1.toInt 8 = 1) ∧ (bk (10 * u1.toInt + u2.toInt).toNat).toInt ≠ u3.toInt)) → szn.toInt = sz.toInt) ∧ (¬ (((0 ≤ u1.toInt ∧ u1.toInt < sz.toInt) ∧ (0 ≤ u2.toInt ∧ u2.toInt ≤ 7) ∧ (0 ≤ u3.toInt ∧ u3.toInt ≤ 9) ∧ ¬ (u3.toInt = 0 ∧ 0 < (bk (10 * u1.toInt + u2.toInt).toNat).toInt ∧ cnt bk u1.toInt 8 = 1) ∧ (bk (10 * u1.toInt + u2.toInt).toNat).toInt ≠ u3.toInt)) → szn.toInt = sz.toInt)) ∧ (∃ sza : Int32, atp f1 sq (fd 1 (.int sza)) ∧ iv sza 0 8 ∧ ((((0 ≤ u1.toInt ∧ u1.toInt < sz.toInt) ∧ (0 ≤ u2.toInt ∧ u2.toInt ≤ 7) ∧ (0 ≤ u3.toInt ∧ u3.toInt ≤ 9) ∧ ¬ (u3.toInt = 0 ∧ 0 < (bk (10 * u1.toInt + u2.toInt).toNat).toInt ∧ cnt bk u1.toInt 8 = 1) ∧ (bk (10 * u1.toInt + u2.toInt).toNat).toInt ≠ u3.toInt)) → sza.toInt = sz.toInt) ∧ (¬ (((0 ≤ u1.toInt ∧ u1.toInt < sz.toInt) ∧ (0 ≤ u2.toInt ∧ u2.toInt ≤ 7) ∧ (0 ≤ u3.toInt ∧ u3.toInt ≤ 9) ∧ ¬ (u3.toInt = 0 ∧ 0 < (bk (10 * u1.toInt + u2.toInt).toNat).toInt ∧ cnt bk u1.toInt 8 = 1) ∧ (bk (10 * u1.toInt + u2.toInt).toNat).toInt ≠ u3.toInt)) → sza.toInt = sa.toInt)) ∧ (∃ ra1 : Nat → Option Nat, atp f1 qa (eqr G 4 8 ra1) ∧ (((((0 ≤ u1.toInt ∧ u1.toInt < sz.toInt) ∧ (0 ≤ u2.toInt ∧ u2.toInt ≤ 7) ∧ (0 ≤ u3.toInt ∧ u3.toInt ≤ 9) ∧ ¬ (u3.toInt = 0 ∧ 0 < (bk (10 * u1.toInt + u2.toInt).toNat).toInt ∧ cnt bk u1.toInt 8 = 1) ∧ (bk (10 * u1.toInt + u2.toInt).toNat).toInt ≠ u3.toInt)) → ∀ k : Nat, k < 8 → ra1 k = rn k) ∧ (¬ (((0 ≤ u1.toInt ∧ u1.toInt < sz.toInt) ∧ (0 ≤ u2.toInt ∧ u2.toInt ≤ 7) ∧ (0 ≤ u3.toInt ∧ u3.toInt ≤ 9) ∧ ¬ (u3.toInt = 0 ∧ 0 < (bk (10 * u1.toInt + u2.toInt).toNat).toInt ∧ cnt bk u1.toInt 8 = 1) ∧ (bk (10 * u1.toInt + u2.toInt).toNat).toInt ≠ u3.toInt)) → ra1 = ra))) ∧ (∃ rn1 : Nat → Option Nat, atp f1 qn (eqr G 4 8 rn1) ∧ (((((0 ≤ u1.toInt ∧ u1.toInt < sz.toInt) ∧ (0 ≤ u2.toInt ∧ u2.toInt ≤ 7) ∧ (0 ≤ u3.toInt ∧ u3.toInt ≤ 9) ∧ ¬ (u3.toInt = 0 ∧ 0 < (bk (10 * u1.toInt + u2.toInt).toNat).toInt ∧ cnt bk u1.toInt 8 = 1) ∧ (bk (10 * u1.toInt + u2.toInt).toNat).toInt ≠ u3.toInt)) → ∃ z, SO G τ1 f1 z (fun k => we bk u1.toInt u2.toInt u3 (10 * u1.toInt.toNat + k)) ∧ ∀ k : Nat, rn1 k = if k = u1.toInt.toNat then some z else rn k) ∧ (¬ (((0 ≤ u1.toInt ∧ u1.toInt < sz.toInt) ∧ (0 ≤ u2.toInt ∧ u2.toInt ≤ 7) ∧ (0 ≤ u3.toInt ∧ u3.toInt ≤ 9) ∧ ¬ (u3.toInt = 0 ∧ 0 < (bk (10 * u1.toInt + u2.toInt).toNat).toInt ∧ cnt bk u1.toInt 8 = 1) ∧ (bk (10 * u1.toInt + u2.toInt).toNat).toInt ≠ u3.toInt)) → rn1 = rn))) ∧ (∃ rq1 : Nat → Int32, atp f1 fq (eqc (.inl (G 1, 4, .inl rq1))) ∧ (∀ k : Nat, k < 4 → rq1 k = if (k : Int) = (if ¬ (0 ≤ u1.toInt ∧ u1.toInt < sz.toInt) then 0 else (if ¬ (0 ≤ u2.toInt ∧ u2.toInt ≤ 7) ∨ ¬ (0 ≤ u3.toInt ∧ u3.toInt ≤ 9) ∨ (u3.toInt = 0 ∧ 0 < (bk (10 * u1.toInt + u2.toInt).toNat).toInt ∧ cnt bk u1.toInt 8 = 1) then 1 else (if (bk (10 * u1.toInt + u2.toInt).toNat).toInt = u3.toInt then 3 else -1))) then rq k + 1 else rq k)) ∧ FX [qa, sq, bo, qn, sn, fq] f f1)) := by
  refine met2 (own := RX10) (by decide) rfl (Nat.le_of_ble_eq_true rfl) ?_
  intro p e s m args below meth c ls Q hQ C hr hini hl h
  have hl : lv_has ls 7 [(0, .ref u0), (1, .int u1), (2, .int u2), (3, .int u3)] := hl
  obtain ⟨hx, hb, hml, hown, hts, hE0, hlk⟩ := id C
  have o := Fr.rf [0, 4, 12, 18, 50, 54, 12001, 12006, 18002] τ f
  have hfx := FX.rf [qa, sq, bo, qn, sn, fq] f
  refine lv_aload_n hx hb dX10_weigh_0 rfl (lv_at hl 0 rfl) ?_
  refine t_getfd C h t hu0 (by decide) wf_10 (v := .ref bo) k_u0_1 fl_X10_19 dX10_weigh_1 ?_
  refine lv_iload_n hx hb dX10_weigh_4 rfl (lv_at hl 1 rfl) ?_
  obtain ⟨_, ra_1⟩ := t_rec t hbo (by decide) wf_12
  refine k_q (r_V C h hl (As := [.int u1]) (rest := []) (s_X0_findX l D G b0 τ f t bo hbo u1 hu1 sn hsn k_bo_1 qn hqn k_sn_0 sz hsz k_sn_1 rn hRqn) ra_1 (Cn := RX0) (T := TX0) (N := 6) rfl rfl mk_X0_find w_594 w_595 w_596 w_597 ⟨Nat.le_of_ble_eq_true rfl, Nat.le_of_ble_eq_true rfl⟩ rfl (Nat.le_of_ble_eq_true rfl) ⟨Nat.le_of_ble_eq_true rfl, Nat.le_of_ble_eq_true rfl⟩ rfl dX10_weigh_5) h (fun ra_2 fa_3 H locs pa_4 h => ?_)
  obtain ⟨qra_2, tfa_3, ogfa_3, x0ra_2⟩ := pa_4
  have egfa_3 := Fr.nil2 ogfa_3
  subst egfa_3
  have tra_2 := qra_2
  refine lv_astoreO (lv' := [(4, va_rf ra_2), (0, .ref u0), (1, .int u1), (2, .int u2), (3, .int u3)]) hx hb dX10_weigh_8 hl (by decide) rfl (fun ls hl => ?_)
  refine lv_aloadO hx hb dX10_weigh_10 (lv_at hl 0 rfl) ?_
  rcases va_rfc ra_2 with eqa_6 | ⟨qa_6, eqa_6⟩
  · subst eqa_6
    have nkra_2 : ¬ (0 ≤ u1.toInt ∧ u1.toInt < sz.toInt) := fun z_ => by rw [if_pos z_] at x0ra_2; obtain ⟨q_, h_, -⟩ := hSO u1.toInt.toNat (by omega); rw [h_] at x0ra_2; cases x0ra_2
    have hl : lv_has ls 7 [(4, .null), (0, .ref u0), (1, .int u1), (2, .int u2), (3, .int u3)] := hl
    show W _ _ _ _ _ _ _ _ _ _ _ _ _ _ _ (F0 m 12 ls [.null])
    refine lv_ifnonnullN hx hb dX10_weigh_12 ?_
    refine lv_aload_n hx hb dX10_weigh_15 rfl (lv_at hl 1 rfl) ?_
    refine lv_iconst (v := 0) hx hb dX10_weigh_16 (by decide) ?_
    obtain ⟨_, ra_7⟩ := t_rec t hu0 (by decide) wf_10
    refine k_i (r_V C h hl (As := [.int 0]) (rest := []) (s_X10_refuseX l D G b0 τ f t u0 hu0 0 (iv_w (iv_k (x := 0) (k := 0) rfl) (by decide)) fq hfq k_u0_7 rq hRfq) ra_7 (Cn := RX10) (T := TX10) (N := 10) rfl rfl mk_X10_refuse w_519 w_521 w_8 w_522 ⟨Nat.le_of_ble_eq_true rfl, Nat.le_of_ble_eq_true rfl⟩ rfl (Nat.le_of_ble_eq_true rfl) ⟨Nat.le_of_ble_eq_true rfl, Nat.le_of_ble_eq_true rfl⟩ rfl dX10_weigh_17) h (fun ra_8 fa_9 H locs pa_10 h => ?_)
    obtain ⟨ira_8, tfa_9, ogfa_9, ⟨rq1_fa_9, kRfqfa_9, pRfqfa_9⟩, fxfa_9⟩ := pa_10
    have ofa_9 : Fr [0, 4, 12, 18, 50, 54, 12001, 12006, 18002] τ f fa_9 := Fr.tr o ogfa_9 (by decide) (by decide)
    have ka_11 := atp.fr k_u0_1 ogfa_9 hu0 (by decide)
    have ka_12 := atp.fr k_u0_7 ogfa_9 hu0 (by decide)
    have ka_13 := atp.fr k_bo_0 ogfa_9 hbo (by decide)
    have ka_14 := atp.fr k_bo_5 ogfa_9 hbo (by decide)
    have ka_15 := atp.fr k_bo_1 ogfa_9 hbo (by decide)
    have ka_16 := atp.fr k_bo_3 ogfa_9 hbo (by decide)
    have ka_17 := atp.fr k_sn_0 ogfa_9 hsn (by decide)
    have ka_18 := atp.fr k_sn_1 ogfa_9 hsn (by decide)
    have ka_19 := atp.fr k_sq_0 ogfa_9 hsq (by decide)
    have ka_20 := atp.fr k_sq_1 ogfa_9 hsq (by decide)
    have ka_21 := atp.fr hRqn ogfa_9 hqn (by decide)
    have ka_22 := atp.fr hRbf ogfa_9 hbf (by decide)
    have ka_23 := atp.fr hRqa ogfa_9 hqa (by decide)
    have ka_24 := FX.tr hfx fxfa_9 (by simp)
    exact u_iret C h hr hQ (⟨τ, (Ex.rf τ), (iv_w ira_8 (by decide)), tfa_9, ofa_9, ⟨fun z_ => absurd z_ (by omega), fun _ => (by omega)⟩, ⟨nx, ka_14, hnx, ⟨fun z_ => absurd z_ (by omega), fun _ => rfl⟩⟩, ⟨ac, ka_13, hac, ⟨fun z_ => absurd z_ (by omega), fun _ => rfl⟩⟩, ⟨sz, ka_18, hsz, ⟨fun z_ => absurd z_ (by omega), fun _ => rfl⟩⟩, ⟨sa, ka_20, hsa, ⟨fun z_ => absurd z_ (by omega), fun _ => rfl⟩⟩, ⟨ra, ka_23, ⟨fun z_ => absurd z_ (by omega), fun _ => rfl⟩⟩, ⟨rn, ka_21, ⟨fun z_ => absurd z_ (by omega), fun _ => rfl⟩⟩, ⟨rq1_fa_9, kRfqfa_9, (bump_eq (c := 0) pRfqfa_9 rfl (by decide) (by rw [if_pos (by omega)]))⟩, ka_24⟩) (Nat.le_of_ble_eq_true rfl) (Nat.le_of_ble_eq_true rfl) dX10_weigh_20
  · subst eqa_6
    have tqa_6 : τ qa_6 = 1 := tra_2 _ rfl
    have okra_2 : (0 ≤ u1.toInt ∧ u1.toInt < sz.toInt) := by
      by_cases z_ : (0 ≤ u1.toInt ∧ u1.toInt < sz.toInt)
      · exact z_
      · rw [if_neg z_] at x0ra_2; cases x0ra_2
    rw [if_pos okra_2] at x0ra_2
    obtain ⟨q_, h_, -, wqS1, wwS1, twS1, kwS1, krS1, hwS1, kxS1, kyS1⟩ := hSO u1.toInt.toNat (by omega)
    rw [← x0ra_2] at h_; cases h_
    have hwS1 : ∀ k : Nat, k < 8 → wwS1 k = bk (10 * u1.toInt.toNat + k) := hwS1
    have kxS1 : atp f qa_6 (fd 1 (.int (bk (10 * u1.toInt.toNat + 8)))) := kxS1
    have kyS1 : atp f qa_6 (fd 2 (.int (bk (10 * u1.toInt.toNat + 9)))) := kyS1
    obtain ⟨sxS1, esxS1, isxS1⟩ : ∃ z_ : Int32, z_ = bk (10 * u1.toInt.toNat + 8) ∧ iv z_ 0 9 := ⟨_, rfl, hb9 _ (by omega)⟩
    rw [← esxS1] at kxS1
    obtain ⟨syS1, esyS1, isyS1⟩ : ∃ z_ : Int32, z_ = bk (10 * u1.toInt.toNat + 9) ∧ iv z_ 0 9 := ⟨_, rfl, hb9 _ (by omega)⟩
    rw [← esyS1] at kyS1
    have twS1_0 := twS1
    have krS1_0 := krS1
    have hl : lv_has ls 7 [(4, .ref qa_6), (0, .ref u0), (1, .int u1), (2, .int u2), (3, .int u3)] := hl
    show W _ _ _ _ _ _ _ _ _ _ _ _ _ _ _ (F0 m 12 ls [.ref qa_6])
    refine lv_ifnonnull (tgt := 21) hx hb dX10_weigh_12 (by decide) ?_
    refine lv_iload_n hx hb dX10_weigh_21 rfl (lv_at hl 3 rfl) ?_
    refine lv_iconst (v := 0) hx hb dX10_weigh_22 (by decide) ?_
    refine lv_bipush (v := 7) hx hb dX10_weigh_23 (by decide) ?_
    refine k_i (r_S C h hl (As := [.int u2, .int 0, .int 7]) (rest := []) (s_X10_within l D G b0 τ f t u2 hu2 0 (iv_w (iv_k (x := 0) (k := 0) rfl) (by decide)) 7 (iv_w (iv_k (x := 7) (k := 7) rfl) (by decide))) mk_X10_within w_425 w_426 w_427 ⟨Nat.le_of_ble_eq_true rfl, Nat.le_of_ble_eq_true rfl⟩ rfl (Nat.le_of_ble_eq_true rfl) ⟨Nat.le_of_ble_eq_true rfl, Nat.le_of_ble_eq_true rfl⟩ rfl dX10_weigh_25) h (fun ra_7 fa_8 H locs pa_9 h => ?_)
    have na_10 : (0 : Int32).toInt = 0 := rfl
    have na_11 : (7 : Int32).toInt = 7 := rfl
    obtain ⟨ira_7, tfa_8, ogfa_8, cnra_7, czra_7⟩ := pa_9
    have egfa_8 := Fr.nil2 ogfa_8
    subst egfa_8
    refine lv_if_eq (tgt := 41) hx hb dX10_weigh_28 (by decide) (fun ca_12 => ?_) (fun ca_12 => ?_)
    · have ca_13 : ra_7.toInt = 0 := congrArg Int32.toInt ca_12
      have ia_14 : iv ra_7 0 0 := iv_Q ca_13 ira_7 (iv_k (x := 0) (k := 0) rfl) (by decide)
      have ia_15 := czra_7 ca_13
      refine lv_aload_n hx hb dX10_weigh_41 rfl (lv_at hl 1 rfl) ?_
      refine lv_iconst (v := 1) hx hb dX10_weigh_42 (by decide) ?_
      obtain ⟨_, ra_16⟩ := t_rec t hu0 (by decide) wf_10
      refine k_i (r_V C h hl (As := [.int 1]) (rest := []) (s_X10_refuseX l D G b0 τ f t u0 hu0 1 (iv_w (iv_k (x := 1) (k := 1) rfl) (by decide)) fq hfq k_u0_7 rq hRfq) ra_16 (Cn := RX10) (T := TX10) (N := 10) rfl rfl mk_X10_refuse w_519 w_521 w_8 w_522 ⟨Nat.le_of_ble_eq_true rfl, Nat.le_of_ble_eq_true rfl⟩ rfl (Nat.le_of_ble_eq_true rfl) ⟨Nat.le_of_ble_eq_true rfl, Nat.le_of_ble_eq_true rfl⟩ rfl dX10_weigh_43) h (fun ra_17 fa_18 H locs pa_19 h => ?_)
      obtain ⟨ira_17, tfa_18, ogfa_18, ⟨rq1_fa_18, kRfqfa_18, pRfqfa_18⟩, fxfa_18⟩ := pa_19
      have ofa_18 : Fr [0, 4, 12, 18, 50, 54, 12001, 12006, 18002] τ f fa_18 := Fr.tr o ogfa_18 (by decide) (by decide)
      have ka_20 := atp.fr k_u0_1 ogfa_18 hu0 (by decide)
      have ka_21 := atp.fr k_u0_7 ogfa_18 hu0 (by decide)
      have ka_22 := atp.fr k_bo_0 ogfa_18 hbo (by decide)
      have ka_23 := atp.fr k_bo_5 ogfa_18 hbo (by decide)
      have ka_24 := atp.fr k_bo_1 ogfa_18 hbo (by decide)
      have ka_25 := atp.fr k_bo_3 ogfa_18 hbo (by decide)
      have ka_26 := atp.fr k_sn_0 ogfa_18 hsn (by decide)
      have ka_27 := atp.fr k_sn_1 ogfa_18 hsn (by decide)
      have ka_28 := atp.fr k_sq_0 ogfa_18 hsq (by decide)
      have ka_29 := atp.fr k_sq_1 ogfa_18 hsq (by decide)
      have ka_30 := atp.fr hRqn ogfa_18 hqn (by decide)
      have ka_31 := atp.fr hRbf ogfa_18 hbf (by decide)
      have ka_32 := atp.fr hRqa ogfa_18 hqa (by decide)
      have ka_33 := FX.tr hfx fxfa_18 (by simp)
      have ka_34 := atp.fr kwS1 ogfa_18 tqa_6 (by decide)
      have ka_35 := atp.fr krS1 ogfa_18 twS1 (by decide)
      have ka_36 := atp.fr kxS1 ogfa_18 tqa_6 (by decide)
      have ka_37 := atp.fr kyS1 ogfa_18 tqa_6 (by decide)
      exact u_iret C h hr hQ (⟨τ, (Ex.rf τ), (iv_w ira_17 (by decide)), tfa_18, ofa_18, ⟨fun z_ => absurd z_ (by omega), fun _ => (by omega)⟩, ⟨nx, ka_23, hnx, ⟨fun z_ => absurd z_ (by omega), fun _ => rfl⟩⟩, ⟨ac, ka_22, hac, ⟨fun z_ => absurd z_ (by omega), fun _ => rfl⟩⟩, ⟨sz, ka_27, hsz, ⟨fun z_ => absurd z_ (by omega), fun _ => rfl⟩⟩, ⟨sa, ka_29, hsa, ⟨fun z_ => absurd z_ (by omega), fun _ => rfl⟩⟩, ⟨ra, ka_32, ⟨fun z_ => absurd z_ (by omega), fun _ => rfl⟩⟩, ⟨rn, ka_30, ⟨fun z_ => absurd z_ (by omega), fun _ => rfl⟩⟩, ⟨rq1_fa_18, kRfqfa_18, (bump_eq (c := 1) pRfqfa_18 rfl (by decide) (by rw [if_neg (by omega), if_pos (by omega)]))⟩, ka_33⟩) (Nat.le_of_ble_eq_true rfl) (Nat.le_of_ble_eq_true rfl) dX10_weigh_46
    · have ca_13 : ra_7.toInt ≠ 0 := fun z_ => ca_12 (Int32.toInt_inj.mp z_)
      have ia_14 : iv ra_7 1 1 := iv_Nl ca_13 ira_7 (by decide)
      obtain ⟨ia_15, ia_16⟩ := cnra_7 ca_13
      have ia_17 : iv u2 0 7 := ⟨by omega, by omega⟩
      refine lv_iload_n hx hb dX10_weigh_31 rfl (lv_at hl 4 rfl) ?_
      refine lv_iconst (v := 0) hx hb dX10_weigh_32 (by decide) ?_
      refine lv_bipush (v := 9) hx hb dX10_weigh_33 (by decide) ?_
      refine k_i (r_S C h hl (As := [.int u3, .int 0, .int 9]) (rest := []) (s_X10_within l D G b0 τ f t u3 hu3 0 (iv_w (iv_k (x := 0) (k := 0) rfl) (by decide)) 9 (iv_w (iv_k (x := 9) (k := 9) rfl) (by decide))) mk_X10_within w_425 w_426 w_427 ⟨Nat.le_of_ble_eq_true rfl, Nat.le_of_ble_eq_true rfl⟩ rfl (Nat.le_of_ble_eq_true rfl) ⟨Nat.le_of_ble_eq_true rfl, Nat.le_of_ble_eq_true rfl⟩ rfl dX10_weigh_35) h (fun ra_18 fa_19 H locs pa_20 h => ?_)
      have na_21 : (0 : Int32).toInt = 0 := rfl
      have na_22 : (9 : Int32).toInt = 9 := rfl
      obtain ⟨ira_18, tfa_19, ogfa_19, cnra_18, czra_18⟩ := pa_20
      have egfa_19 := Fr.nil2 ogfa_19
      subst egfa_19
      refine lv_if_ne (tgt := 47) hx hb dX10_weigh_38 (by decide) (fun ca_23 => ?_) (fun ca_23 => ?_)
      · have ca_24 : ra_18.toInt ≠ 0 := fun z_ => ca_23 (Int32.toInt_inj.mp z_)
        have ia_25 : iv ra_18 1 1 := iv_Nl ca_24 ira_18 (by decide)
        obtain ⟨ia_26, ia_27⟩ := cnra_18 ca_24
        have ia_28 : iv u3 0 9 := ⟨by omega, by omega⟩
        refine lv_aload hx hb dX10_weigh_47 (lv_at hl 0 rfl) ?_
        refine t_getfd C h t tqa_6 (by decide) wf_1 (v := .ref wqS1) kwS1 fl_X10_135 dX10_weigh_49 ?_
        refine lv_iload_n hx hb dX10_weigh_52 rfl (lv_at hl 3 rfl) ?_
        refine e_iald C h t twS1 (by decide) wf_2 krS1 (iv_in ia_17 (by decide)) dX10_weigh_53 (fun za_29 eza_29 iza_29 => ?_)
        have mza_29 := congrArg Int32.toInt eza_29
        have hwe := wei_eq hwS1 (s := u2.toInt) (by omega) (by omega) hb9 (hPOS u1.toInt.toNat (by omega))
        have mws : za_29.toInt = (bk (10 * u1.toInt + u2.toInt).toNat).toInt := by rw [eza_29, hwS1 _ (by omega)]; exact congrArg (fun z_ => (bk z_).toInt) (by omega)
        rw [← eza_29] at hwe
        refine lv_istore (lv' := [(5, .int za_29), (4, .ref qa_6), (0, .ref u0), (1, .int u1), (2, .int u2), (3, .int u3)]) hx hb dX10_weigh_54 hl (by decide) rfl (fun ls hl => ?_)
        refine lv_iload_n hx hb dX10_weigh_56 rfl (lv_at hl 5 rfl) ?_
        refine lv_if_ne (tgt := 76) hx hb dX10_weigh_57 (by decide) (fun ca_30 => ?_) (fun ca_30 => ?_)
        · have ca_31 : u3.toInt ≠ 0 := fun z_ => ca_30 (Int32.toInt_inj.mp z_)
          have ia_32 : iv u3 1 9 := iv_Nl ca_31 ia_28 (by decide)
          refine lv_iload_n hx hb dX10_weigh_76 rfl (lv_at hl 5 rfl) ?_
          refine lv_iload hx hb dX10_weigh_77 (lv_at hl 0 rfl) ?_
          refine lv_icmp_ne (tgt := 88) hx hb dX10_weigh_79 (by decide) (fun ca_33 => ?_) (fun ca_33 => ?_)
          · have ca_34 : u3.toInt ≠ za_29.toInt := fun z_ => ca_33 (Int32.toInt_inj.mp z_)
            refine lv_aload hx hb dX10_weigh_88 (lv_at hl 1 rfl) ?_
            refine t_getfd C h t tqa_6 (by decide) wf_1 (v := .ref wqS1) kwS1 fl_X10_135 dX10_weigh_90 ?_
            refine lv_bipush (v := 8) hx hb dX10_weigh_93 (by decide) ?_
            refine k_q (r_S C h hl (As := [.ref wqS1, .int 8]) (rest := []) (c_copyOf l D G b0 f wqS1 wwS1 (eqc_some krS1)) mk_J7_copyOf_59c91 w_644 w_538 w_539 ⟨Nat.le_of_ble_eq_true rfl, Nat.le_of_ble_eq_true rfl⟩ rfl (Nat.le_of_ble_eq_true rfl) ⟨Nat.le_of_ble_eq_true rfl, Nat.le_of_ble_eq_true rfl⟩ rfl dX10_weigh_95) h (fun ofa_35 fa_35 H locs pfa_35 h => ?_)
            obtain ⟨nw, rfl, nnw, rfl⟩ := pfa_35
            have nfnw := nfr hfx nnw
            have tfa_36 := TI.new (tg := 54) (e := (.inl (G 1, 8, .inl wwS1))) t nnw (fw_54 _ ⟨_, rfl, fun j => iv_any _⟩)
            have esnw : Ex τ (tu τ nw 54) := TI.newEx t nnw
            have ozfa_36 : Fr [0, 4, 12, 18, 50, 54, 12001, 12006, 18002] τ f (hu f nw (.inl (G 1, 8, .inl wwS1))) := Fr.new o nnw (TI.zero t nnw) (by decide)
            have tqnw : tu τ nw 54 nw = 54 := tu_self _ _ _
            generalize tu τ nw 54 = τnw at tfa_36 esnw tqnw
            have ka_37 := atp.new k_u0_1 nnw (e := (.inl (G 1, 8, .inl wwS1)))
            have ka_38 := atp.new k_u0_7 nnw (e := (.inl (G 1, 8, .inl wwS1)))
            have ka_39 := atp.new k_bo_0 nnw (e := (.inl (G 1, 8, .inl wwS1)))
            have ka_40 := atp.new k_bo_5 nnw (e := (.inl (G 1, 8, .inl wwS1)))
            have ka_41 := atp.new k_bo_1 nnw (e := (.inl (G 1, 8, .inl wwS1)))
            have ka_42 := atp.new k_bo_3 nnw (e := (.inl (G 1, 8, .inl wwS1)))
            have ka_43 := atp.new k_sn_0 nnw (e := (.inl (G 1, 8, .inl wwS1)))
            have ka_44 := atp.new k_sn_1 nnw (e := (.inl (G 1, 8, .inl wwS1)))
            have ka_45 := atp.new k_sq_0 nnw (e := (.inl (G 1, 8, .inl wwS1)))
            have ka_46 := atp.new k_sq_1 nnw (e := (.inl (G 1, 8, .inl wwS1)))
            have ka_47 := atp.new hRqn nnw (e := (.inl (G 1, 8, .inl wwS1)))
            have ka_48 := atp.new hRbf nnw (e := (.inl (G 1, 8, .inl wwS1)))
            have ka_49 := atp.new hRqa nnw (e := (.inl (G 1, 8, .inl wwS1)))
            have ka_50 := atp.new hRfq nnw (e := (.inl (G 1, 8, .inl wwS1)))
            have ka_51 := FX.new hfx nnw (e := (.inl (G 1, 8, .inl wwS1)))
            have ka_52 := atp.new kwS1 nnw (e := (.inl (G 1, 8, .inl wwS1)))
            have ka_53 := atp.new krS1 nnw (e := (.inl (G 1, 8, .inl wwS1)))
            have ka_54 := atp.new kxS1 nnw (e := (.inl (G 1, 8, .inl wwS1)))
            have ka_55 := atp.new kyS1 nnw (e := (.inl (G 1, 8, .inl wwS1)))
            have kRnw : atp (hu f nw (.inl (G 1, 8, .inl wwS1))) nw (eqc (.inl (G 1, 8, .inl wwS1))) := ⟨_, hu_self _ _ _, rfl⟩
            generalize hu f nw (.inl (G 1, 8, .inl wwS1)) = fa_36 at h tfa_36 ozfa_36 ka_37 ka_38 ka_39 ka_40 ka_41 ka_42 ka_43 ka_44 ka_45 ka_46 ka_47 ka_48 ka_49 ka_50 ka_51 ka_52 ka_53 ka_54 ka_55 kRnw
            have Ofa_36 : Fr [0, 4, 12, 18, 50, 54, 12001, 12006, 18002] τ f fa_36 := ozfa_36
            have xfa_36 : Ex τ τnw := esnw
            have ha_56 : τnw u0 = 10 := Ex.at esnw hu0 (by decide)
            have ha_57 : τnw qa_6 = 1 := Ex.at esnw tqa_6 (by decide)
            have ha_58 : τnw bo = 12 := Ex.at esnw hbo (by decide)
            have ha_59 : τnw fq = 50 := Ex.at esnw hfq (by decide)
            have ha_60 : τnw sn = 15 := Ex.at esnw hsn (by decide)
            have ha_61 : τnw bf = 17 := Ex.at esnw hbf (by decide)
            have ha_62 : τnw qn = 4 := Ex.at esnw hqn (by decide)
            have ha_63 : τnw qa = 4 := Ex.at esnw hqa (by decide)
            have ha_64 : τnw wqS1 = 2 := Ex.at esnw twS1 (by decide)
            have ha_65 : τnw sq = 18 := Ex.at esnw hsq (by decide)
            have ofa_36z := Fr.rf [0, 4, 12, 18, 50, 54, 12001, 12006, 18002] τnw fa_36
            refine lv_astore (lv' := [(6, .ref nw), (5, .int za_29), (4, .ref qa_6), (0, .ref u0), (1, .int u1), (2, .int u2), (3, .int u3)]) hx hb dX10_weigh_98 hl (by decide) rfl (fun ls hl => ?_)
            refine lv_aload hx hb dX10_weigh_100 (lv_at hl 0 rfl) ?_
            refine lv_iload_n hx hb dX10_weigh_102 rfl (lv_at hl 5 rfl) ?_
            refine lv_iload_n hx hb dX10_weigh_103 rfl (lv_at hl 6 rfl) ?_
            refine e_iast C h tfa_36 ofa_36z tqnw (by decide) (by decide) wf_54 fw_54 kRnw (iv_in ia_17 (by decide)) (iv_w ia_32 (by decide)) dX10_weigh_104 (fun Ra_68 fa_66 erRa_68 H locs h tfa_66 ofa_66 hq hn_ ka_67 => ?_)
            have ka_69 := atp.tg ka_37 hq ha_56 (by decide)
            have ka_70 := atp.tg ka_38 hq ha_56 (by decide)
            have ka_71 := atp.tg ka_39 hq ha_58 (by decide)
            have ka_72 := atp.tg ka_40 hq ha_58 (by decide)
            have ka_73 := atp.tg ka_41 hq ha_58 (by decide)
            have ka_74 := atp.tg ka_42 hq ha_58 (by decide)
            have ka_75 := atp.tg ka_43 hq ha_60 (by decide)
            have ka_76 := atp.tg ka_44 hq ha_60 (by decide)
            have ka_77 := atp.tg ka_45 hq ha_65 (by decide)
            have ka_78 := atp.tg ka_46 hq ha_65 (by decide)
            have ka_79 := atp.tg ka_47 hq ha_62 (by decide)
            have ka_80 := atp.tg ka_48 hq ha_61 (by decide)
            have ka_81 := atp.tg ka_49 hq ha_63 (by decide)
            have ka_82 := atp.tg ka_50 hq ha_59 (by decide)
            have ka_83 := FX.upn ka_51 hn_ nfnw
            have ka_84 := atp.tg ka_52 hq ha_57 (by decide)
            have ka_85 := atp.tg ka_53 hq ha_64 (by decide)
            have ka_86 := atp.tg ka_54 hq ha_57 (by decide)
            have ka_87 := atp.tg ka_55 hq ha_57 (by decide)
            refine lv_aload_n hx hb dX10_weigh_105 rfl (lv_at hl 3 rfl) ?_
            refine t_getfd C h tfa_66 ha_56 (by decide) wf_10 (v := .ref bo) ka_69 fl_X10_19 dX10_weigh_106 ?_
            refine lv_iload_n hx hb dX10_weigh_109 rfl (lv_at hl 4 rfl) ?_
            refine q_new C h nw_X10_121 (Nat.le_of_ble_eq_true rfl) (Nat.le_of_ble_eq_true rfl) dX10_weigh_110 (fun qa_89 H nqa_89 h => ?_)
            have tzqa_89 := TI.zero tfa_66 nqa_89
            have tfa_90 := TI.raw (e := (.inr (7, [.null, .int 0, .int 0, .null]))) tfa_66 tzqa_89
            have ofa_90 : Fr [0, 4, 12, 18, 50, 54, 12001, 12006, 18002] τnw fa_36 (hu fa_66 qa_89 (.inr (7, [.null, .int 0, .int 0, .null]))) := Fr.new ofa_66 nqa_89 tzqa_89 (by decide)
            have nfqa_89 := nfr ka_83 nqa_89
            have rwqa_89 : hu fa_66 qa_89 (.inr (7, [.null, .int 0, .int 0, .null])) qa_89 = some (.inr (7, [.null, .int 0, .int 0, .null])) := hu_self _ _ _
            have ka_91 := atp.new ka_69 nqa_89 (e := (.inr (7, [.null, .int 0, .int 0, .null])))
            have ka_92 := atp.new ka_70 nqa_89 (e := (.inr (7, [.null, .int 0, .int 0, .null])))
            have ka_93 := atp.new ka_71 nqa_89 (e := (.inr (7, [.null, .int 0, .int 0, .null])))
            have ka_94 := atp.new ka_72 nqa_89 (e := (.inr (7, [.null, .int 0, .int 0, .null])))
            have ka_95 := atp.new ka_73 nqa_89 (e := (.inr (7, [.null, .int 0, .int 0, .null])))
            have ka_96 := atp.new ka_74 nqa_89 (e := (.inr (7, [.null, .int 0, .int 0, .null])))
            have ka_97 := atp.new ka_75 nqa_89 (e := (.inr (7, [.null, .int 0, .int 0, .null])))
            have ka_98 := atp.new ka_76 nqa_89 (e := (.inr (7, [.null, .int 0, .int 0, .null])))
            have ka_99 := atp.new ka_77 nqa_89 (e := (.inr (7, [.null, .int 0, .int 0, .null])))
            have ka_100 := atp.new ka_78 nqa_89 (e := (.inr (7, [.null, .int 0, .int 0, .null])))
            have ka_101 := atp.new ka_79 nqa_89 (e := (.inr (7, [.null, .int 0, .int 0, .null])))
            have ka_102 := atp.new ka_80 nqa_89 (e := (.inr (7, [.null, .int 0, .int 0, .null])))
            have ka_103 := atp.new ka_81 nqa_89 (e := (.inr (7, [.null, .int 0, .int 0, .null])))
            have ka_104 := atp.new ka_82 nqa_89 (e := (.inr (7, [.null, .int 0, .int 0, .null])))
            have ka_105 := FX.new ka_83 nqa_89 (e := (.inr (7, [.null, .int 0, .int 0, .null])))
            have ka_106 := atp.new ka_84 nqa_89 (e := (.inr (7, [.null, .int 0, .int 0, .null])))
            have ka_107 := atp.new ka_85 nqa_89 (e := (.inr (7, [.null, .int 0, .int 0, .null])))
            have ka_108 := atp.new ka_86 nqa_89 (e := (.inr (7, [.null, .int 0, .int 0, .null])))
            have ka_109 := atp.new ka_87 nqa_89 (e := (.inr (7, [.null, .int 0, .int 0, .null])))
            have ka_110 := atp.new ka_67 nqa_89 (e := (.inr (7, [.null, .int 0, .int 0, .null])))
            generalize hu fa_66 qa_89 (.inr (7, [.null, .int 0, .int 0, .null])) = fa_90 at h tfa_90 ofa_90 rwqa_89 ka_91 ka_92 ka_93 ka_94 ka_95 ka_96 ka_97 ka_98 ka_99 ka_100 ka_101 ka_102 ka_103 ka_104 ka_105 ka_106 ka_107 ka_108 ka_109 ka_110
            refine lv_dup hx hb dX10_weigh_113 rfl ?_
            refine lv_aload hx hb dX10_weigh_114 (lv_at hl 0 rfl) ?_
            refine lv_aload hx hb dX10_weigh_116 (lv_at hl 2 rfl) ?_
            refine t_getfd C h tfa_90 ha_57 (by decide) wf_1 (v := .int sxS1) ka_108 fl_X10_125 dX10_weigh_118 ?_
            refine lv_aload hx hb dX10_weigh_121 (lv_at hl 2 rfl) ?_
            refine t_getfd C h tfa_90 ha_57 (by decide) wf_1 (v := .int syS1) ka_109 fl_X10_120 dX10_weigh_123 ?_
            refine k_v (r_I C h hl (As := [.ref nw, .int sxS1, .int syS1]) (rest := [.ref qa_89, .int u1, .ref bo]) (c_StepSet l D G b0 fa_90 qa_89 nw Ra_68 sxS1 syS1 rwqa_89 (eqc_some ka_110)) mk_X6_init rfl w_614 w_534 w_535 ⟨Nat.le_of_ble_eq_true rfl, Nat.le_of_ble_eq_true rfl⟩ rfl (Nat.le_of_ble_eq_true rfl) ⟨Nat.le_of_ble_eq_true rfl, Nat.le_of_ble_eq_true rfl⟩ rfl dX10_weigh_126) h (fun fa_111 H locs pfa_111 h => ?_)
            obtain ⟨qa_112, nqa_112, efa_111⟩ := pfa_111
            obtain ⟨τfa_111, exfa_111, tfa_111, ofa_111, tqqa_89, tqqa_112, kafa_111, kbfa_111, kcfa_111, kdfa_111, hnfa_111, kefa_111⟩ := mkset tfa_90 ofa_90 (by decide) tzqa_89 rwqa_89 nqa_112 efa_111 (fun j_ => by
                rw [erRa_68]; by_cases h_ : j_ = u2.toInt.toNat
                · rw [upd_at h_]; exact ⟨by omega, by omega⟩
                · rw [upd_off h_]; exact row_iv2 t twS1_0 krS1_0 j_) isxS1 isyS1
            have ka_113 := atp.tr ka_91 (hnfa_111 _ (fun z_ => by have h_ := ha_56; rw [z_, tzqa_89] at h_; exact absurd h_ (by decide)) (atp.nn ka_91))
            have ka_114 := atp.tr ka_92 (hnfa_111 _ (fun z_ => by have h_ := ha_56; rw [z_, tzqa_89] at h_; exact absurd h_ (by decide)) (atp.nn ka_92))
            have ka_115 := atp.tr ka_93 (hnfa_111 _ (fun z_ => by have h_ := ha_58; rw [z_, tzqa_89] at h_; exact absurd h_ (by decide)) (atp.nn ka_93))
            have ka_116 := atp.tr ka_94 (hnfa_111 _ (fun z_ => by have h_ := ha_58; rw [z_, tzqa_89] at h_; exact absurd h_ (by decide)) (atp.nn ka_94))
            have ka_117 := atp.tr ka_95 (hnfa_111 _ (fun z_ => by have h_ := ha_58; rw [z_, tzqa_89] at h_; exact absurd h_ (by decide)) (atp.nn ka_95))
            have ka_118 := atp.tr ka_96 (hnfa_111 _ (fun z_ => by have h_ := ha_58; rw [z_, tzqa_89] at h_; exact absurd h_ (by decide)) (atp.nn ka_96))
            have ka_119 := atp.tr ka_97 (hnfa_111 _ (fun z_ => by have h_ := ha_60; rw [z_, tzqa_89] at h_; exact absurd h_ (by decide)) (atp.nn ka_97))
            have ka_120 := atp.tr ka_98 (hnfa_111 _ (fun z_ => by have h_ := ha_60; rw [z_, tzqa_89] at h_; exact absurd h_ (by decide)) (atp.nn ka_98))
            have ka_121 := atp.tr ka_99 (hnfa_111 _ (fun z_ => by have h_ := ha_65; rw [z_, tzqa_89] at h_; exact absurd h_ (by decide)) (atp.nn ka_99))
            have ka_122 := atp.tr ka_100 (hnfa_111 _ (fun z_ => by have h_ := ha_65; rw [z_, tzqa_89] at h_; exact absurd h_ (by decide)) (atp.nn ka_100))
            have ka_123 := atp.tr ka_101 (hnfa_111 _ (fun z_ => by have h_ := ha_62; rw [z_, tzqa_89] at h_; exact absurd h_ (by decide)) (atp.nn ka_101))
            have ka_124 := atp.tr ka_102 (hnfa_111 _ (fun z_ => by have h_ := ha_61; rw [z_, tzqa_89] at h_; exact absurd h_ (by decide)) (atp.nn ka_102))
            have ka_125 := atp.tr ka_103 (hnfa_111 _ (fun z_ => by have h_ := ha_63; rw [z_, tzqa_89] at h_; exact absurd h_ (by decide)) (atp.nn ka_103))
            have ka_126 := atp.tr ka_104 (hnfa_111 _ (fun z_ => by have h_ := ha_59; rw [z_, tzqa_89] at h_; exact absurd h_ (by decide)) (atp.nn ka_104))
            have ka_127 : FX [qa, sq, bo, qn, sn, fq] f fa_111 := fun q_ hq_ h0_ => by have e_ := ka_105 q_ hq_ h0_; rw [hnfa_111 q_ (nfqa_89 q_ hq_ h0_) (by rw [e_]; exact h0_), e_]
            have ka_128 := atp.tr ka_106 (hnfa_111 _ (fun z_ => by have h_ := ha_57; rw [z_, tzqa_89] at h_; exact absurd h_ (by decide)) (atp.nn ka_106))
            have ka_129 := atp.tr ka_107 (hnfa_111 _ (fun z_ => by have h_ := ha_64; rw [z_, tzqa_89] at h_; exact absurd h_ (by decide)) (atp.nn ka_107))
            have ka_130 := atp.tr ka_108 (hnfa_111 _ (fun z_ => by have h_ := ha_57; rw [z_, tzqa_89] at h_; exact absurd h_ (by decide)) (atp.nn ka_108))
            have ka_131 := atp.tr ka_109 (hnfa_111 _ (fun z_ => by have h_ := ha_57; rw [z_, tzqa_89] at h_; exact absurd h_ (by decide)) (atp.nn ka_109))
            have ka_132 := atp.tr ka_110 (hnfa_111 _ (fun z_ => by have h_ := tqnw; rw [z_, tzqa_89] at h_; exact absurd h_ (by decide)) (atp.nn ka_110))
            have Ofa_111 : Fr [0, 4, 12, 18, 50, 54, 12001, 12006, 18002] τ f fa_111 := Fr.tr Ofa_36 (Fr.cv xfa_36 ofa_111 (by decide) (fun _ h_ => h_)) (fun _ h_ => h_) (fun _ h_ => h_)
            have xfa_111 : Ex τ τfa_111 := Ex.tr xfa_36 exfa_111
            have ha_133 : τfa_111 bo = 12 := Ex.at exfa_111 ha_58 (by decide)
            have ha_134 : τfa_111 u0 = 10 := Ex.at exfa_111 ha_56 (by decide)
            have ha_135 : τfa_111 qa_6 = 1 := Ex.at exfa_111 ha_57 (by decide)
            have ha_136 : τfa_111 nw = 54 := Ex.at exfa_111 tqnw (by decide)
            have ha_137 : τfa_111 fq = 50 := Ex.at exfa_111 ha_59 (by decide)
            have ha_138 : τfa_111 sn = 15 := Ex.at exfa_111 ha_60 (by decide)
            have ha_139 : τfa_111 bf = 17 := Ex.at exfa_111 ha_61 (by decide)
            have ha_140 : τfa_111 qn = 4 := Ex.at exfa_111 ha_62 (by decide)
            have ha_141 : τfa_111 qa = 4 := Ex.at exfa_111 ha_63 (by decide)
            have ha_142 : τfa_111 wqS1 = 2 := Ex.at exfa_111 ha_64 (by decide)
            have ha_143 : τfa_111 sq = 18 := Ex.at exfa_111 ha_65 (by decide)
            have ofa_111z := Fr.rf [0, 4, 12, 18, 50, 54, 12001, 12006, 18002] τfa_111 fa_111
            obtain ⟨_, ra_144⟩ := t_rec tfa_111 ha_133 (by decide) wf_12
            refine k_v (r_V C h hl (As := [.int u1, .ref qa_89]) (rest := []) (s_X0_replaceX l D G b0 τfa_111 fa_111 tfa_111 bo ha_133 u1 hu1 qa_89 tqqa_89 sq ha_143 ac hac ka_115 nx hnx ka_116 sn ha_138 ka_117 bf ha_139 ka_118 qn ha_140 ka_119 sz hsz ka_120 qa ha_141 ka_121 rn ka_123 rf ka_124 ra ka_125 esq hab (by omega) (by omega)) ra_144 (Cn := RX0) (T := TX0) (N := 6) rfl rfl mk_X0_replace w_632 w_633 w_634 w_635 ⟨Nat.le_of_ble_eq_true rfl, Nat.le_of_ble_eq_true rfl⟩ rfl (Nat.le_of_ble_eq_true rfl) ⟨Nat.le_of_ble_eq_true rfl, Nat.le_of_ble_eq_true rfl⟩ rfl dX10_weigh_129) h (fun fa_146 H locs pa_147 h => ?_)
            obtain ⟨tfa_146, ogfa_146, ⟨nx1_fa_146, kpu0_5fa_146, ipu0_5fa_146, rpu0_5fa_146⟩, ⟨ac1_fa_146, kpu0_0fa_146, ipu0_0fa_146, rpu0_0fa_146⟩, ⟨sza_fa_146, kpsq_1fa_146, ipsq_1fa_146, rpsq_1fa_146⟩, ⟨ra1_fa_146, kRqafa_146, pRqafa_146⟩, ⟨rn1_fa_146, kRqnfa_146, pRqnfa_146⟩, fxfa_146⟩ := pa_147
            have ofa_146 : Fr [0, 4, 12, 18, 50, 54, 12001, 12006, 18002] τfa_111 fa_111 fa_146 := Fr.tr ofa_111z ogfa_146 (by decide) (by decide)
            have ka_148 := atp.fr ka_113 ogfa_146 ha_134 (by decide)
            have ka_149 := atp.fr ka_114 ogfa_146 ha_134 (by decide)
            have ka_150 := atp.fk ka_117 ogfa_146 ha_133 (by decide) (by decide)
            have ka_151 := atp.fk ka_118 ogfa_146 ha_133 (by decide) (by decide)
            have ka_152 := atp.fr ka_119 ogfa_146 ha_138 (by decide)
            have ka_153 := atp.fr ka_120 ogfa_146 ha_138 (by decide)
            have ka_154 := atp.fk ka_121 ogfa_146 ha_143 (by decide) (by decide)
            have ka_155 := atp.fr ka_124 ogfa_146 ha_139 (by decide)
            have ka_156 := atp.fr ka_126 ogfa_146 ha_137 (by decide)
            have ka_157 := FX.tr ka_127 fxfa_146 (by simp)
            have ka_158 := atp.fr ka_128 ogfa_146 ha_135 (by decide)
            have ka_159 := atp.fr ka_129 ogfa_146 ha_142 (by decide)
            have ka_160 := atp.fr ka_130 ogfa_146 ha_135 (by decide)
            have ka_161 := atp.fr ka_131 ogfa_146 ha_135 (by decide)
            have ka_162 := atp.fr ka_132 ogfa_146 ha_136 (by decide)
            have ka_163 := atp.fr kafa_111 ogfa_146 tqqa_89 (by decide)
            have ka_164 := atp.fr kbfa_111 ogfa_146 tqqa_112 (by decide)
            have ka_165 := atp.fr kcfa_111 ogfa_146 tqqa_89 (by decide)
            have ka_166 := atp.fr kdfa_111 ogfa_146 tqqa_89 (by decide)
            refine lv_iload hx hb dX10_weigh_132 (lv_at hl 1 rfl) ?_
            exact u_iret C h hr hQ (⟨τfa_111, xfa_111, (iv_w iza_29 (by decide)), tfa_146, (Fr.tr Ofa_111 (Fr.cv xfa_111 ofa_146 (by decide) (fun _ h_ => h_)) (fun _ h_ => h_) (fun _ h_ => h_)), ⟨fun _ => (by omega), fun z_ => (z_ (by omega)).elim⟩, ⟨nx1_fa_146, kpu0_5fa_146, ipu0_5fa_146, ⟨fun _ => (by omega), fun z_ => (z_ (by omega)).elim⟩⟩, ⟨ac1_fa_146, kpu0_0fa_146, ipu0_0fa_146, ⟨fun _ => (by omega), fun z_ => (z_ (by omega)).elim⟩⟩, ⟨sz, ka_153, hsz, ⟨fun _ => (by omega), fun z_ => (z_ (by omega)).elim⟩⟩, ⟨sza_fa_146, kpsq_1fa_146, ipsq_1fa_146, ⟨fun _ => (by omega), fun z_ => (z_ (by omega)).elim⟩⟩, ⟨ra1_fa_146, kRqafa_146, ⟨fun _ => pRqafa_146, fun z_ => (z_ (by omega)).elim⟩⟩, ⟨rn1_fa_146, kRqnfa_146, ⟨fun _ => ⟨qa_89, ⟨tqqa_89, qa_112, Ra_68, tqqa_112, ka_163, ka_164, (by rw [erRa_68]; exact we_lo hwS1 (by omega) (by omega) rfl), by rw [show (fun k => we bk u1.toInt u2.toInt u3 (10 * u1.toInt.toNat + k)) 8 = sxS1 from (we_hi (by omega) (by omega) (by decide)).trans esxS1.symm]; exact ka_165, by rw [show (fun k => we bk u1.toInt u2.toInt u3 (10 * u1.toInt.toNat + k)) 9 = syS1 from (we_hi (by omega) (by omega) (by decide)).trans esyS1.symm]; exact ka_166⟩, pRqnfa_146⟩, fun z_ => (z_ (by omega)).elim⟩⟩, ⟨rq, ka_156, (bump_no (by rw [if_neg (by omega), if_neg (by omega), if_neg (by omega)]))⟩, ka_157⟩) (Nat.le_of_ble_eq_true rfl) (Nat.le_of_ble_eq_true rfl) dX10_weigh_134
          · have ca_34 : u3.toInt = za_29.toInt := congrArg Int32.toInt ca_33
            have ia_35 : iv za_29 1 9 := iv_Q ca_34.symm iza_29 ia_32 (by decide)
            refine lv_aload_n hx hb dX10_weigh_82 rfl (lv_at hl 2 rfl) ?_
            refine lv_iconst (v := 3) hx hb dX10_weigh_83 (by decide) ?_
            obtain ⟨_, ra_36⟩ := t_rec t hu0 (by decide) wf_10
            refine k_i (r_V C h hl (As := [.int 3]) (rest := []) (s_X10_refuseX l D G b0 τ f t u0 hu0 3 (iv_w (iv_k (x := 3) (k := 3) rfl) (by decide)) fq hfq k_u0_7 rq hRfq) ra_36 (Cn := RX10) (T := TX10) (N := 10) rfl rfl mk_X10_refuse w_519 w_521 w_8 w_522 ⟨Nat.le_of_ble_eq_true rfl, Nat.le_of_ble_eq_true rfl⟩ rfl (Nat.le_of_ble_eq_true rfl) ⟨Nat.le_of_ble_eq_true rfl, Nat.le_of_ble_eq_true rfl⟩ rfl dX10_weigh_84) h (fun ra_37 fa_38 H locs pa_39 h => ?_)
            obtain ⟨ira_37, tfa_38, ogfa_38, ⟨rq1_fa_38, kRfqfa_38, pRfqfa_38⟩, fxfa_38⟩ := pa_39
            have ofa_38 : Fr [0, 4, 12, 18, 50, 54, 12001, 12006, 18002] τ f fa_38 := Fr.tr o ogfa_38 (by decide) (by decide)
            have ka_40 := atp.fr k_u0_1 ogfa_38 hu0 (by decide)
            have ka_41 := atp.fr k_u0_7 ogfa_38 hu0 (by decide)
            have ka_42 := atp.fr k_bo_0 ogfa_38 hbo (by decide)
            have ka_43 := atp.fr k_bo_5 ogfa_38 hbo (by decide)
            have ka_44 := atp.fr k_bo_1 ogfa_38 hbo (by decide)
            have ka_45 := atp.fr k_bo_3 ogfa_38 hbo (by decide)
            have ka_46 := atp.fr k_sn_0 ogfa_38 hsn (by decide)
            have ka_47 := atp.fr k_sn_1 ogfa_38 hsn (by decide)
            have ka_48 := atp.fr k_sq_0 ogfa_38 hsq (by decide)
            have ka_49 := atp.fr k_sq_1 ogfa_38 hsq (by decide)
            have ka_50 := atp.fr hRqn ogfa_38 hqn (by decide)
            have ka_51 := atp.fr hRbf ogfa_38 hbf (by decide)
            have ka_52 := atp.fr hRqa ogfa_38 hqa (by decide)
            have ka_53 := FX.tr hfx fxfa_38 (by simp)
            have ka_54 := atp.fr kwS1 ogfa_38 tqa_6 (by decide)
            have ka_55 := atp.fr krS1 ogfa_38 twS1 (by decide)
            have ka_56 := atp.fr kxS1 ogfa_38 tqa_6 (by decide)
            have ka_57 := atp.fr kyS1 ogfa_38 tqa_6 (by decide)
            exact u_iret C h hr hQ (⟨τ, (Ex.rf τ), (iv_w ira_37 (by decide)), tfa_38, ofa_38, ⟨fun z_ => absurd z_ (by omega), fun _ => (by omega)⟩, ⟨nx, ka_43, hnx, ⟨fun z_ => absurd z_ (by omega), fun _ => rfl⟩⟩, ⟨ac, ka_42, hac, ⟨fun z_ => absurd z_ (by omega), fun _ => rfl⟩⟩, ⟨sz, ka_47, hsz, ⟨fun z_ => absurd z_ (by omega), fun _ => rfl⟩⟩, ⟨sa, ka_49, hsa, ⟨fun z_ => absurd z_ (by omega), fun _ => rfl⟩⟩, ⟨ra, ka_52, ⟨fun z_ => absurd z_ (by omega), fun _ => rfl⟩⟩, ⟨rn, ka_50, ⟨fun z_ => absurd z_ (by omega), fun _ => rfl⟩⟩, ⟨rq1_fa_38, kRfqfa_38, (bump_eq (c := 3) pRfqfa_38 rfl (by decide) (by rw [if_neg (by omega), if_neg (by omega), if_pos (by omega)]))⟩, ka_53⟩) (Nat.le_of_ble_eq_true rfl) (Nat.le_of_ble_eq_true rfl) dX10_weigh_87
        · have ca_31 : u3.toInt = 0 := congrArg Int32.toInt ca_30
          have ia_32 : iv u3 0 0 := iv_Q ca_31 ia_28 (iv_k (x := 0) (k := 0) rfl) (by decide)
          refine lv_iload hx hb dX10_weigh_60 (lv_at hl 0 rfl) ?_
          refine lv_aload hx hb dX10_weigh_62 (lv_at hl 1 rfl) ?_
          obtain ⟨_, ra_33⟩ := t_rec t tqa_6 (by decide) wf_1
          refine k_i (r_V C h hl (As := []) (rest := [.int za_29]) (s_X6_weightTotalX l D G b0 τ f t qa_6 tqa_6 wqS1 twS1 kwS1 wwS1 krS1) ra_33 (Cn := RX6) (T := TX6) (N := 4) rfl rfl mk_X6_weightTotal w_636 w_637 w_638 w_639 ⟨Nat.le_of_ble_eq_true rfl, Nat.le_of_ble_eq_true rfl⟩ rfl (Nat.le_of_ble_eq_true rfl) ⟨Nat.le_of_ble_eq_true rfl, Nat.le_of_ble_eq_true rfl⟩ rfl dX10_weigh_64) h (fun ra_34 fa_35 H locs pa_36 h => ?_)
          obtain ⟨ira_34, tfa_35, ogfa_35, x0ra_34⟩ := pa_36
          have egfa_35 := Fr.nil2 ogfa_35
          subst egfa_35
          refine lv_icmp_ne (tgt := 76) hx hb dX10_weigh_67 (by decide) (fun ca_37 => ?_) (fun ca_37 => ?_)
          · have ca_38 : za_29.toInt ≠ ra_34.toInt := fun z_ => ca_37 (Int32.toInt_inj.mp z_)
            refine lv_iload_n hx hb dX10_weigh_76 rfl (lv_at hl 5 rfl) ?_
            refine lv_iload hx hb dX10_weigh_77 (lv_at hl 0 rfl) ?_
            refine lv_icmp_ne (tgt := 88) hx hb dX10_weigh_79 (by decide) (fun ca_39 => ?_) (fun ca_39 => ?_)
            · have ca_40 : u3.toInt ≠ za_29.toInt := fun z_ => ca_39 (Int32.toInt_inj.mp z_)
              refine lv_aload hx hb dX10_weigh_88 (lv_at hl 1 rfl) ?_
              refine t_getfd C h t tqa_6 (by decide) wf_1 (v := .ref wqS1) kwS1 fl_X10_135 dX10_weigh_90 ?_
              refine lv_bipush (v := 8) hx hb dX10_weigh_93 (by decide) ?_
              refine k_q (r_S C h hl (As := [.ref wqS1, .int 8]) (rest := []) (c_copyOf l D G b0 f wqS1 wwS1 (eqc_some krS1)) mk_J7_copyOf_59c91 w_644 w_538 w_539 ⟨Nat.le_of_ble_eq_true rfl, Nat.le_of_ble_eq_true rfl⟩ rfl (Nat.le_of_ble_eq_true rfl) ⟨Nat.le_of_ble_eq_true rfl, Nat.le_of_ble_eq_true rfl⟩ rfl dX10_weigh_95) h (fun ofa_41 fa_41 H locs pfa_41 h => ?_)
              obtain ⟨nw, rfl, nnw, rfl⟩ := pfa_41
              have nfnw := nfr hfx nnw
              have tfa_42 := TI.new (tg := 54) (e := (.inl (G 1, 8, .inl wwS1))) t nnw (fw_54 _ ⟨_, rfl, fun j => iv_any _⟩)
              have esnw : Ex τ (tu τ nw 54) := TI.newEx t nnw
              have ozfa_42 : Fr [0, 4, 12, 18, 50, 54, 12001, 12006, 18002] τ f (hu f nw (.inl (G 1, 8, .inl wwS1))) := Fr.new o nnw (TI.zero t nnw) (by decide)
              have tqnw : tu τ nw 54 nw = 54 := tu_self _ _ _
              generalize tu τ nw 54 = τnw at tfa_42 esnw tqnw
              have ka_43 := atp.new k_u0_1 nnw (e := (.inl (G 1, 8, .inl wwS1)))
              have ka_44 := atp.new k_u0_7 nnw (e := (.inl (G 1, 8, .inl wwS1)))
              have ka_45 := atp.new k_bo_0 nnw (e := (.inl (G 1, 8, .inl wwS1)))
              have ka_46 := atp.new k_bo_5 nnw (e := (.inl (G 1, 8, .inl wwS1)))
              have ka_47 := atp.new k_bo_1 nnw (e := (.inl (G 1, 8, .inl wwS1)))
              have ka_48 := atp.new k_bo_3 nnw (e := (.inl (G 1, 8, .inl wwS1)))
              have ka_49 := atp.new k_sn_0 nnw (e := (.inl (G 1, 8, .inl wwS1)))
              have ka_50 := atp.new k_sn_1 nnw (e := (.inl (G 1, 8, .inl wwS1)))
              have ka_51 := atp.new k_sq_0 nnw (e := (.inl (G 1, 8, .inl wwS1)))
              have ka_52 := atp.new k_sq_1 nnw (e := (.inl (G 1, 8, .inl wwS1)))
              have ka_53 := atp.new hRqn nnw (e := (.inl (G 1, 8, .inl wwS1)))
              have ka_54 := atp.new hRbf nnw (e := (.inl (G 1, 8, .inl wwS1)))
              have ka_55 := atp.new hRqa nnw (e := (.inl (G 1, 8, .inl wwS1)))
              have ka_56 := atp.new hRfq nnw (e := (.inl (G 1, 8, .inl wwS1)))
              have ka_57 := FX.new hfx nnw (e := (.inl (G 1, 8, .inl wwS1)))
              have ka_58 := atp.new kwS1 nnw (e := (.inl (G 1, 8, .inl wwS1)))
              have ka_59 := atp.new krS1 nnw (e := (.inl (G 1, 8, .inl wwS1)))
              have ka_60 := atp.new kxS1 nnw (e := (.inl (G 1, 8, .inl wwS1)))
              have ka_61 := atp.new kyS1 nnw (e := (.inl (G 1, 8, .inl wwS1)))
              have kRnw : atp (hu f nw (.inl (G 1, 8, .inl wwS1))) nw (eqc (.inl (G 1, 8, .inl wwS1))) := ⟨_, hu_self _ _ _, rfl⟩
              generalize hu f nw (.inl (G 1, 8, .inl wwS1)) = fa_42 at h tfa_42 ozfa_42 ka_43 ka_44 ka_45 ka_46 ka_47 ka_48 ka_49 ka_50 ka_51 ka_52 ka_53 ka_54 ka_55 ka_56 ka_57 ka_58 ka_59 ka_60 ka_61 kRnw
              have Ofa_42 : Fr [0, 4, 12, 18, 50, 54, 12001, 12006, 18002] τ f fa_42 := ozfa_42
              have xfa_42 : Ex τ τnw := esnw
              have ha_62 : τnw u0 = 10 := Ex.at esnw hu0 (by decide)
              have ha_63 : τnw qa_6 = 1 := Ex.at esnw tqa_6 (by decide)
              have ha_64 : τnw bo = 12 := Ex.at esnw hbo (by decide)
              have ha_65 : τnw fq = 50 := Ex.at esnw hfq (by decide)
              have ha_66 : τnw sn = 15 := Ex.at esnw hsn (by decide)
              have ha_67 : τnw bf = 17 := Ex.at esnw hbf (by decide)
              have ha_68 : τnw qn = 4 := Ex.at esnw hqn (by decide)
              have ha_69 : τnw qa = 4 := Ex.at esnw hqa (by decide)
              have ha_70 : τnw wqS1 = 2 := Ex.at esnw twS1 (by decide)
              have ha_71 : τnw sq = 18 := Ex.at esnw hsq (by decide)
              have ofa_42z := Fr.rf [0, 4, 12, 18, 50, 54, 12001, 12006, 18002] τnw fa_42
              refine lv_astore (lv' := [(6, .ref nw), (5, .int za_29), (4, .ref qa_6), (0, .ref u0), (1, .int u1), (2, .int u2), (3, .int u3)]) hx hb dX10_weigh_98 hl (by decide) rfl (fun ls hl => ?_)
              refine lv_aload hx hb dX10_weigh_100 (lv_at hl 0 rfl) ?_
              refine lv_iload_n hx hb dX10_weigh_102 rfl (lv_at hl 5 rfl) ?_
              refine lv_iload_n hx hb dX10_weigh_103 rfl (lv_at hl 6 rfl) ?_
              refine e_iast C h tfa_42 ofa_42z tqnw (by decide) (by decide) wf_54 fw_54 kRnw (iv_in ia_17 (by decide)) (iv_w ia_32 (by decide)) dX10_weigh_104 (fun Ra_74 fa_72 erRa_74 H locs h tfa_72 ofa_72 hq hn_ ka_73 => ?_)
              have ka_75 := atp.tg ka_43 hq ha_62 (by decide)
              have ka_76 := atp.tg ka_44 hq ha_62 (by decide)
              have ka_77 := atp.tg ka_45 hq ha_64 (by decide)
              have ka_78 := atp.tg ka_46 hq ha_64 (by decide)
              have ka_79 := atp.tg ka_47 hq ha_64 (by decide)
              have ka_80 := atp.tg ka_48 hq ha_64 (by decide)
              have ka_81 := atp.tg ka_49 hq ha_66 (by decide)
              have ka_82 := atp.tg ka_50 hq ha_66 (by decide)
              have ka_83 := atp.tg ka_51 hq ha_71 (by decide)
              have ka_84 := atp.tg ka_52 hq ha_71 (by decide)
              have ka_85 := atp.tg ka_53 hq ha_68 (by decide)
              have ka_86 := atp.tg ka_54 hq ha_67 (by decide)
              have ka_87 := atp.tg ka_55 hq ha_69 (by decide)
              have ka_88 := atp.tg ka_56 hq ha_65 (by decide)
              have ka_89 := FX.upn ka_57 hn_ nfnw
              have ka_90 := atp.tg ka_58 hq ha_63 (by decide)
              have ka_91 := atp.tg ka_59 hq ha_70 (by decide)
              have ka_92 := atp.tg ka_60 hq ha_63 (by decide)
              have ka_93 := atp.tg ka_61 hq ha_63 (by decide)
              refine lv_aload_n hx hb dX10_weigh_105 rfl (lv_at hl 3 rfl) ?_
              refine t_getfd C h tfa_72 ha_62 (by decide) wf_10 (v := .ref bo) ka_75 fl_X10_19 dX10_weigh_106 ?_
              refine lv_iload_n hx hb dX10_weigh_109 rfl (lv_at hl 4 rfl) ?_
              refine q_new C h nw_X10_121 (Nat.le_of_ble_eq_true rfl) (Nat.le_of_ble_eq_true rfl) dX10_weigh_110 (fun qa_95 H nqa_95 h => ?_)
              have tzqa_95 := TI.zero tfa_72 nqa_95
              have tfa_96 := TI.raw (e := (.inr (7, [.null, .int 0, .int 0, .null]))) tfa_72 tzqa_95
              have ofa_96 : Fr [0, 4, 12, 18, 50, 54, 12001, 12006, 18002] τnw fa_42 (hu fa_72 qa_95 (.inr (7, [.null, .int 0, .int 0, .null]))) := Fr.new ofa_72 nqa_95 tzqa_95 (by decide)
              have nfqa_95 := nfr ka_89 nqa_95
              have rwqa_95 : hu fa_72 qa_95 (.inr (7, [.null, .int 0, .int 0, .null])) qa_95 = some (.inr (7, [.null, .int 0, .int 0, .null])) := hu_self _ _ _
              have ka_97 := atp.new ka_75 nqa_95 (e := (.inr (7, [.null, .int 0, .int 0, .null])))
              have ka_98 := atp.new ka_76 nqa_95 (e := (.inr (7, [.null, .int 0, .int 0, .null])))
              have ka_99 := atp.new ka_77 nqa_95 (e := (.inr (7, [.null, .int 0, .int 0, .null])))
              have ka_100 := atp.new ka_78 nqa_95 (e := (.inr (7, [.null, .int 0, .int 0, .null])))
              have ka_101 := atp.new ka_79 nqa_95 (e := (.inr (7, [.null, .int 0, .int 0, .null])))
              have ka_102 := atp.new ka_80 nqa_95 (e := (.inr (7, [.null, .int 0, .int 0, .null])))
              have ka_103 := atp.new ka_81 nqa_95 (e := (.inr (7, [.null, .int 0, .int 0, .null])))
              have ka_104 := atp.new ka_82 nqa_95 (e := (.inr (7, [.null, .int 0, .int 0, .null])))
              have ka_105 := atp.new ka_83 nqa_95 (e := (.inr (7, [.null, .int 0, .int 0, .null])))
              have ka_106 := atp.new ka_84 nqa_95 (e := (.inr (7, [.null, .int 0, .int 0, .null])))
              have ka_107 := atp.new ka_85 nqa_95 (e := (.inr (7, [.null, .int 0, .int 0, .null])))
              have ka_108 := atp.new ka_86 nqa_95 (e := (.inr (7, [.null, .int 0, .int 0, .null])))
              have ka_109 := atp.new ka_87 nqa_95 (e := (.inr (7, [.null, .int 0, .int 0, .null])))
              have ka_110 := atp.new ka_88 nqa_95 (e := (.inr (7, [.null, .int 0, .int 0, .null])))
              have ka_111 := FX.new ka_89 nqa_95 (e := (.inr (7, [.null, .int 0, .int 0, .null])))
              have ka_112 := atp.new ka_90 nqa_95 (e := (.inr (7, [.null, .int 0, .int 0, .null])))
              have ka_113 := atp.new ka_91 nqa_95 (e := (.inr (7, [.null, .int 0, .int 0, .null])))
              have ka_114 := atp.new ka_92 nqa_95 (e := (.inr (7, [.null, .int 0, .int 0, .null])))
              have ka_115 := atp.new ka_93 nqa_95 (e := (.inr (7, [.null, .int 0, .int 0, .null])))
              have ka_116 := atp.new ka_73 nqa_95 (e := (.inr (7, [.null, .int 0, .int 0, .null])))
              generalize hu fa_72 qa_95 (.inr (7, [.null, .int 0, .int 0, .null])) = fa_96 at h tfa_96 ofa_96 rwqa_95 ka_97 ka_98 ka_99 ka_100 ka_101 ka_102 ka_103 ka_104 ka_105 ka_106 ka_107 ka_108 ka_109 ka_110 ka_111 ka_112 ka_113 ka_114 ka_115 ka_116
              refine lv_dup hx hb dX10_weigh_113 rfl ?_
              refine lv_aload hx hb dX10_weigh_114 (lv_at hl 0 rfl) ?_
              refine lv_aload hx hb dX10_weigh_116 (lv_at hl 2 rfl) ?_
              refine t_getfd C h tfa_96 ha_63 (by decide) wf_1 (v := .int sxS1) ka_114 fl_X10_125 dX10_weigh_118 ?_
              refine lv_aload hx hb dX10_weigh_121 (lv_at hl 2 rfl) ?_
              refine t_getfd C h tfa_96 ha_63 (by decide) wf_1 (v := .int syS1) ka_115 fl_X10_120 dX10_weigh_123 ?_
              refine k_v (r_I C h hl (As := [.ref nw, .int sxS1, .int syS1]) (rest := [.ref qa_95, .int u1, .ref bo]) (c_StepSet l D G b0 fa_96 qa_95 nw Ra_74 sxS1 syS1 rwqa_95 (eqc_some ka_116)) mk_X6_init rfl w_614 w_534 w_535 ⟨Nat.le_of_ble_eq_true rfl, Nat.le_of_ble_eq_true rfl⟩ rfl (Nat.le_of_ble_eq_true rfl) ⟨Nat.le_of_ble_eq_true rfl, Nat.le_of_ble_eq_true rfl⟩ rfl dX10_weigh_126) h (fun fa_117 H locs pfa_117 h => ?_)
              obtain ⟨qa_118, nqa_118, efa_117⟩ := pfa_117
              obtain ⟨τfa_117, exfa_117, tfa_117, ofa_117, tqqa_95, tqqa_118, kafa_117, kbfa_117, kcfa_117, kdfa_117, hnfa_117, kefa_117⟩ := mkset tfa_96 ofa_96 (by decide) tzqa_95 rwqa_95 nqa_118 efa_117 (fun j_ => by
                  rw [erRa_74]; by_cases h_ : j_ = u2.toInt.toNat
                  · rw [upd_at h_]; exact ⟨by omega, by omega⟩
                  · rw [upd_off h_]; exact row_iv2 t twS1_0 krS1_0 j_) isxS1 isyS1
              have ka_119 := atp.tr ka_97 (hnfa_117 _ (fun z_ => by have h_ := ha_62; rw [z_, tzqa_95] at h_; exact absurd h_ (by decide)) (atp.nn ka_97))
              have ka_120 := atp.tr ka_98 (hnfa_117 _ (fun z_ => by have h_ := ha_62; rw [z_, tzqa_95] at h_; exact absurd h_ (by decide)) (atp.nn ka_98))
              have ka_121 := atp.tr ka_99 (hnfa_117 _ (fun z_ => by have h_ := ha_64; rw [z_, tzqa_95] at h_; exact absurd h_ (by decide)) (atp.nn ka_99))
              have ka_122 := atp.tr ka_100 (hnfa_117 _ (fun z_ => by have h_ := ha_64; rw [z_, tzqa_95] at h_; exact absurd h_ (by decide)) (atp.nn ka_100))
              have ka_123 := atp.tr ka_101 (hnfa_117 _ (fun z_ => by have h_ := ha_64; rw [z_, tzqa_95] at h_; exact absurd h_ (by decide)) (atp.nn ka_101))
              have ka_124 := atp.tr ka_102 (hnfa_117 _ (fun z_ => by have h_ := ha_64; rw [z_, tzqa_95] at h_; exact absurd h_ (by decide)) (atp.nn ka_102))
              have ka_125 := atp.tr ka_103 (hnfa_117 _ (fun z_ => by have h_ := ha_66; rw [z_, tzqa_95] at h_; exact absurd h_ (by decide)) (atp.nn ka_103))
              have ka_126 := atp.tr ka_104 (hnfa_117 _ (fun z_ => by have h_ := ha_66; rw [z_, tzqa_95] at h_; exact absurd h_ (by decide)) (atp.nn ka_104))
              have ka_127 := atp.tr ka_105 (hnfa_117 _ (fun z_ => by have h_ := ha_71; rw [z_, tzqa_95] at h_; exact absurd h_ (by decide)) (atp.nn ka_105))
              have ka_128 := atp.tr ka_106 (hnfa_117 _ (fun z_ => by have h_ := ha_71; rw [z_, tzqa_95] at h_; exact absurd h_ (by decide)) (atp.nn ka_106))
              have ka_129 := atp.tr ka_107 (hnfa_117 _ (fun z_ => by have h_ := ha_68; rw [z_, tzqa_95] at h_; exact absurd h_ (by decide)) (atp.nn ka_107))
              have ka_130 := atp.tr ka_108 (hnfa_117 _ (fun z_ => by have h_ := ha_67; rw [z_, tzqa_95] at h_; exact absurd h_ (by decide)) (atp.nn ka_108))
              have ka_131 := atp.tr ka_109 (hnfa_117 _ (fun z_ => by have h_ := ha_69; rw [z_, tzqa_95] at h_; exact absurd h_ (by decide)) (atp.nn ka_109))
              have ka_132 := atp.tr ka_110 (hnfa_117 _ (fun z_ => by have h_ := ha_65; rw [z_, tzqa_95] at h_; exact absurd h_ (by decide)) (atp.nn ka_110))
              have ka_133 : FX [qa, sq, bo, qn, sn, fq] f fa_117 := fun q_ hq_ h0_ => by have e_ := ka_111 q_ hq_ h0_; rw [hnfa_117 q_ (nfqa_95 q_ hq_ h0_) (by rw [e_]; exact h0_), e_]
              have ka_134 := atp.tr ka_112 (hnfa_117 _ (fun z_ => by have h_ := ha_63; rw [z_, tzqa_95] at h_; exact absurd h_ (by decide)) (atp.nn ka_112))
              have ka_135 := atp.tr ka_113 (hnfa_117 _ (fun z_ => by have h_ := ha_70; rw [z_, tzqa_95] at h_; exact absurd h_ (by decide)) (atp.nn ka_113))
              have ka_136 := atp.tr ka_114 (hnfa_117 _ (fun z_ => by have h_ := ha_63; rw [z_, tzqa_95] at h_; exact absurd h_ (by decide)) (atp.nn ka_114))
              have ka_137 := atp.tr ka_115 (hnfa_117 _ (fun z_ => by have h_ := ha_63; rw [z_, tzqa_95] at h_; exact absurd h_ (by decide)) (atp.nn ka_115))
              have ka_138 := atp.tr ka_116 (hnfa_117 _ (fun z_ => by have h_ := tqnw; rw [z_, tzqa_95] at h_; exact absurd h_ (by decide)) (atp.nn ka_116))
              have Ofa_117 : Fr [0, 4, 12, 18, 50, 54, 12001, 12006, 18002] τ f fa_117 := Fr.tr Ofa_42 (Fr.cv xfa_42 ofa_117 (by decide) (fun _ h_ => h_)) (fun _ h_ => h_) (fun _ h_ => h_)
              have xfa_117 : Ex τ τfa_117 := Ex.tr xfa_42 exfa_117
              have ha_139 : τfa_117 bo = 12 := Ex.at exfa_117 ha_64 (by decide)
              have ha_140 : τfa_117 u0 = 10 := Ex.at exfa_117 ha_62 (by decide)
              have ha_141 : τfa_117 qa_6 = 1 := Ex.at exfa_117 ha_63 (by decide)
              have ha_142 : τfa_117 nw = 54 := Ex.at exfa_117 tqnw (by decide)
              have ha_143 : τfa_117 fq = 50 := Ex.at exfa_117 ha_65 (by decide)
              have ha_144 : τfa_117 sn = 15 := Ex.at exfa_117 ha_66 (by decide)
              have ha_145 : τfa_117 bf = 17 := Ex.at exfa_117 ha_67 (by decide)
              have ha_146 : τfa_117 qn = 4 := Ex.at exfa_117 ha_68 (by decide)
              have ha_147 : τfa_117 qa = 4 := Ex.at exfa_117 ha_69 (by decide)
              have ha_148 : τfa_117 wqS1 = 2 := Ex.at exfa_117 ha_70 (by decide)
              have ha_149 : τfa_117 sq = 18 := Ex.at exfa_117 ha_71 (by decide)
              have ofa_117z := Fr.rf [0, 4, 12, 18, 50, 54, 12001, 12006, 18002] τfa_117 fa_117
              obtain ⟨_, ra_150⟩ := t_rec tfa_117 ha_139 (by decide) wf_12
              refine k_v (r_V C h hl (As := [.int u1, .ref qa_95]) (rest := []) (s_X0_replaceX l D G b0 τfa_117 fa_117 tfa_117 bo ha_139 u1 hu1 qa_95 tqqa_95 sq ha_149 ac hac ka_121 nx hnx ka_122 sn ha_144 ka_123 bf ha_145 ka_124 qn ha_146 ka_125 sz hsz ka_126 qa ha_147 ka_127 rn ka_129 rf ka_130 ra ka_131 esq hab (by omega) (by omega)) ra_150 (Cn := RX0) (T := TX0) (N := 6) rfl rfl mk_X0_replace w_632 w_633 w_634 w_635 ⟨Nat.le_of_ble_eq_true rfl, Nat.le_of_ble_eq_true rfl⟩ rfl (Nat.le_of_ble_eq_true rfl) ⟨Nat.le_of_ble_eq_true rfl, Nat.le_of_ble_eq_true rfl⟩ rfl dX10_weigh_129) h (fun fa_152 H locs pa_153 h => ?_)
              obtain ⟨tfa_152, ogfa_152, ⟨nx1_fa_152, kpu0_5fa_152, ipu0_5fa_152, rpu0_5fa_152⟩, ⟨ac1_fa_152, kpu0_0fa_152, ipu0_0fa_152, rpu0_0fa_152⟩, ⟨sza_fa_152, kpsq_1fa_152, ipsq_1fa_152, rpsq_1fa_152⟩, ⟨ra1_fa_152, kRqafa_152, pRqafa_152⟩, ⟨rn1_fa_152, kRqnfa_152, pRqnfa_152⟩, fxfa_152⟩ := pa_153
              have ofa_152 : Fr [0, 4, 12, 18, 50, 54, 12001, 12006, 18002] τfa_117 fa_117 fa_152 := Fr.tr ofa_117z ogfa_152 (by decide) (by decide)
              have ka_154 := atp.fr ka_119 ogfa_152 ha_140 (by decide)
              have ka_155 := atp.fr ka_120 ogfa_152 ha_140 (by decide)
              have ka_156 := atp.fk ka_123 ogfa_152 ha_139 (by decide) (by decide)
              have ka_157 := atp.fk ka_124 ogfa_152 ha_139 (by decide) (by decide)
              have ka_158 := atp.fr ka_125 ogfa_152 ha_144 (by decide)
              have ka_159 := atp.fr ka_126 ogfa_152 ha_144 (by decide)
              have ka_160 := atp.fk ka_127 ogfa_152 ha_149 (by decide) (by decide)
              have ka_161 := atp.fr ka_130 ogfa_152 ha_145 (by decide)
              have ka_162 := atp.fr ka_132 ogfa_152 ha_143 (by decide)
              have ka_163 := FX.tr ka_133 fxfa_152 (by simp)
              have ka_164 := atp.fr ka_134 ogfa_152 ha_141 (by decide)
              have ka_165 := atp.fr ka_135 ogfa_152 ha_148 (by decide)
              have ka_166 := atp.fr ka_136 ogfa_152 ha_141 (by decide)
              have ka_167 := atp.fr ka_137 ogfa_152 ha_141 (by decide)
              have ka_168 := atp.fr ka_138 ogfa_152 ha_142 (by decide)
              have ka_169 := atp.fr kafa_117 ogfa_152 tqqa_95 (by decide)
              have ka_170 := atp.fr kbfa_117 ogfa_152 tqqa_118 (by decide)
              have ka_171 := atp.fr kcfa_117 ogfa_152 tqqa_95 (by decide)
              have ka_172 := atp.fr kdfa_117 ogfa_152 tqqa_95 (by decide)
              refine lv_iload hx hb dX10_weigh_132 (lv_at hl 1 rfl) ?_
              exact u_iret C h hr hQ (⟨τfa_117, xfa_117, (iv_w iza_29 (by decide)), tfa_152, (Fr.tr Ofa_117 (Fr.cv xfa_117 ofa_152 (by decide) (fun _ h_ => h_)) (fun _ h_ => h_) (fun _ h_ => h_)), ⟨fun _ => (by omega), fun z_ => (z_ (by omega)).elim⟩, ⟨nx1_fa_152, kpu0_5fa_152, ipu0_5fa_152, ⟨fun _ => (by omega), fun z_ => (z_ (by omega)).elim⟩⟩, ⟨ac1_fa_152, kpu0_0fa_152, ipu0_0fa_152, ⟨fun _ => (by omega), fun z_ => (z_ (by omega)).elim⟩⟩, ⟨sz, ka_159, hsz, ⟨fun _ => (by omega), fun z_ => (z_ (by omega)).elim⟩⟩, ⟨sza_fa_152, kpsq_1fa_152, ipsq_1fa_152, ⟨fun _ => (by omega), fun z_ => (z_ (by omega)).elim⟩⟩, ⟨ra1_fa_152, kRqafa_152, ⟨fun _ => pRqafa_152, fun z_ => (z_ (by omega)).elim⟩⟩, ⟨rn1_fa_152, kRqnfa_152, ⟨fun _ => ⟨qa_95, ⟨tqqa_95, qa_118, Ra_74, tqqa_118, ka_169, ka_170, (by rw [erRa_74]; exact we_lo hwS1 (by omega) (by omega) rfl), by rw [show (fun k => we bk u1.toInt u2.toInt u3 (10 * u1.toInt.toNat + k)) 8 = sxS1 from (we_hi (by omega) (by omega) (by decide)).trans esxS1.symm]; exact ka_171, by rw [show (fun k => we bk u1.toInt u2.toInt u3 (10 * u1.toInt.toNat + k)) 9 = syS1 from (we_hi (by omega) (by omega) (by decide)).trans esyS1.symm]; exact ka_172⟩, pRqnfa_152⟩, fun z_ => (z_ (by omega)).elim⟩⟩, ⟨rq, ka_162, (bump_no (by rw [if_neg (by omega), if_neg (by omega), if_neg (by omega)]))⟩, ka_163⟩) (Nat.le_of_ble_eq_true rfl) (Nat.le_of_ble_eq_true rfl) dX10_weigh_134
            · have ca_40 : u3.toInt = za_29.toInt := congrArg Int32.toInt ca_39
              have ia_41 : iv za_29 0 0 := iv_Q ca_40.symm iza_29 ia_32 (by decide)
              refine lv_aload_n hx hb dX10_weigh_82 rfl (lv_at hl 2 rfl) ?_
              refine lv_iconst (v := 3) hx hb dX10_weigh_83 (by decide) ?_
              obtain ⟨_, ra_42⟩ := t_rec t hu0 (by decide) wf_10
              refine k_i (r_V C h hl (As := [.int 3]) (rest := []) (s_X10_refuseX l D G b0 τ f t u0 hu0 3 (iv_w (iv_k (x := 3) (k := 3) rfl) (by decide)) fq hfq k_u0_7 rq hRfq) ra_42 (Cn := RX10) (T := TX10) (N := 10) rfl rfl mk_X10_refuse w_519 w_521 w_8 w_522 ⟨Nat.le_of_ble_eq_true rfl, Nat.le_of_ble_eq_true rfl⟩ rfl (Nat.le_of_ble_eq_true rfl) ⟨Nat.le_of_ble_eq_true rfl, Nat.le_of_ble_eq_true rfl⟩ rfl dX10_weigh_84) h (fun ra_43 fa_44 H locs pa_45 h => ?_)
              obtain ⟨ira_43, tfa_44, ogfa_44, ⟨rq1_fa_44, kRfqfa_44, pRfqfa_44⟩, fxfa_44⟩ := pa_45
              have ofa_44 : Fr [0, 4, 12, 18, 50, 54, 12001, 12006, 18002] τ f fa_44 := Fr.tr o ogfa_44 (by decide) (by decide)
              have ka_46 := atp.fr k_u0_1 ogfa_44 hu0 (by decide)
              have ka_47 := atp.fr k_u0_7 ogfa_44 hu0 (by decide)
              have ka_48 := atp.fr k_bo_0 ogfa_44 hbo (by decide)
              have ka_49 := atp.fr k_bo_5 ogfa_44 hbo (by decide)
              have ka_50 := atp.fr k_bo_1 ogfa_44 hbo (by decide)
              have ka_51 := atp.fr k_bo_3 ogfa_44 hbo (by decide)
              have ka_52 := atp.fr k_sn_0 ogfa_44 hsn (by decide)
              have ka_53 := atp.fr k_sn_1 ogfa_44 hsn (by decide)
              have ka_54 := atp.fr k_sq_0 ogfa_44 hsq (by decide)
              have ka_55 := atp.fr k_sq_1 ogfa_44 hsq (by decide)
              have ka_56 := atp.fr hRqn ogfa_44 hqn (by decide)
              have ka_57 := atp.fr hRbf ogfa_44 hbf (by decide)
              have ka_58 := atp.fr hRqa ogfa_44 hqa (by decide)
              have ka_59 := FX.tr hfx fxfa_44 (by simp)
              have ka_60 := atp.fr kwS1 ogfa_44 tqa_6 (by decide)
              have ka_61 := atp.fr krS1 ogfa_44 twS1 (by decide)
              have ka_62 := atp.fr kxS1 ogfa_44 tqa_6 (by decide)
              have ka_63 := atp.fr kyS1 ogfa_44 tqa_6 (by decide)
              exact u_iret C h hr hQ (⟨τ, (Ex.rf τ), (iv_w ira_43 (by decide)), tfa_44, ofa_44, ⟨fun z_ => absurd z_ (by omega), fun _ => (by omega)⟩, ⟨nx, ka_49, hnx, ⟨fun z_ => absurd z_ (by omega), fun _ => rfl⟩⟩, ⟨ac, ka_48, hac, ⟨fun z_ => absurd z_ (by omega), fun _ => rfl⟩⟩, ⟨sz, ka_53, hsz, ⟨fun z_ => absurd z_ (by omega), fun _ => rfl⟩⟩, ⟨sa, ka_55, hsa, ⟨fun z_ => absurd z_ (by omega), fun _ => rfl⟩⟩, ⟨ra, ka_58, ⟨fun z_ => absurd z_ (by omega), fun _ => rfl⟩⟩, ⟨rn, ka_56, ⟨fun z_ => absurd z_ (by omega), fun _ => rfl⟩⟩, ⟨rq1_fa_44, kRfqfa_44, (bump_eq (c := 3) pRfqfa_44 rfl (by decide) (by rw [if_neg (by omega), if_neg (by omega), if_pos (by omega)]))⟩, ka_59⟩) (Nat.le_of_ble_eq_true rfl) (Nat.le_of_ble_eq_true rfl) dX10_weigh_87
          · have ca_38 : za_29.toInt = ra_34.toInt := congrArg Int32.toInt ca_37
            have ia_39 : iv ra_34 0 9 := iv_Q ca_38.symm ira_34 iza_29 (by decide)
            refine lv_aload_n hx hb dX10_weigh_70 rfl (lv_at hl 2 rfl) ?_
            refine lv_iconst (v := 1) hx hb dX10_weigh_71 (by decide) ?_
            obtain ⟨_, ra_40⟩ := t_rec t hu0 (by decide) wf_10
            refine k_i (r_V C h hl (As := [.int 1]) (rest := []) (s_X10_refuseX l D G b0 τ f t u0 hu0 1 (iv_w (iv_k (x := 1) (k := 1) rfl) (by decide)) fq hfq k_u0_7 rq hRfq) ra_40 (Cn := RX10) (T := TX10) (N := 10) rfl rfl mk_X10_refuse w_519 w_521 w_8 w_522 ⟨Nat.le_of_ble_eq_true rfl, Nat.le_of_ble_eq_true rfl⟩ rfl (Nat.le_of_ble_eq_true rfl) ⟨Nat.le_of_ble_eq_true rfl, Nat.le_of_ble_eq_true rfl⟩ rfl dX10_weigh_72) h (fun ra_41 fa_42 H locs pa_43 h => ?_)
            obtain ⟨ira_41, tfa_42, ogfa_42, ⟨rq1_fa_42, kRfqfa_42, pRfqfa_42⟩, fxfa_42⟩ := pa_43
            have ofa_42 : Fr [0, 4, 12, 18, 50, 54, 12001, 12006, 18002] τ f fa_42 := Fr.tr o ogfa_42 (by decide) (by decide)
            have ka_44 := atp.fr k_u0_1 ogfa_42 hu0 (by decide)
            have ka_45 := atp.fr k_u0_7 ogfa_42 hu0 (by decide)
            have ka_46 := atp.fr k_bo_0 ogfa_42 hbo (by decide)
            have ka_47 := atp.fr k_bo_5 ogfa_42 hbo (by decide)
            have ka_48 := atp.fr k_bo_1 ogfa_42 hbo (by decide)
            have ka_49 := atp.fr k_bo_3 ogfa_42 hbo (by decide)
            have ka_50 := atp.fr k_sn_0 ogfa_42 hsn (by decide)
            have ka_51 := atp.fr k_sn_1 ogfa_42 hsn (by decide)
            have ka_52 := atp.fr k_sq_0 ogfa_42 hsq (by decide)
            have ka_53 := atp.fr k_sq_1 ogfa_42 hsq (by decide)
            have ka_54 := atp.fr hRqn ogfa_42 hqn (by decide)
            have ka_55 := atp.fr hRbf ogfa_42 hbf (by decide)
            have ka_56 := atp.fr hRqa ogfa_42 hqa (by decide)
            have ka_57 := FX.tr hfx fxfa_42 (by simp)
            have ka_58 := atp.fr kwS1 ogfa_42 tqa_6 (by decide)
            have ka_59 := atp.fr krS1 ogfa_42 twS1 (by decide)
            have ka_60 := atp.fr kxS1 ogfa_42 tqa_6 (by decide)
            have ka_61 := atp.fr kyS1 ogfa_42 tqa_6 (by decide)
            exact u_iret C h hr hQ (⟨τ, (Ex.rf τ), (iv_w ira_41 (by decide)), tfa_42, ofa_42, ⟨fun z_ => absurd z_ (by omega), fun _ => (by omega)⟩, ⟨nx, ka_47, hnx, ⟨fun z_ => absurd z_ (by omega), fun _ => rfl⟩⟩, ⟨ac, ka_46, hac, ⟨fun z_ => absurd z_ (by omega), fun _ => rfl⟩⟩, ⟨sz, ka_51, hsz, ⟨fun z_ => absurd z_ (by omega), fun _ => rfl⟩⟩, ⟨sa, ka_53, hsa, ⟨fun z_ => absurd z_ (by omega), fun _ => rfl⟩⟩, ⟨ra, ka_56, ⟨fun z_ => absurd z_ (by omega), fun _ => rfl⟩⟩, ⟨rn, ka_54, ⟨fun z_ => absurd z_ (by omega), fun _ => rfl⟩⟩, ⟨rq1_fa_42, kRfqfa_42, (bump_eq (c := 1) pRfqfa_42 rfl (by decide) (by rw [if_neg (by omega), if_pos (by omega)]))⟩, ka_57⟩) (Nat.le_of_ble_eq_true rfl) (Nat.le_of_ble_eq_true rfl) dX10_weigh_75
      · have ca_24 : ra_18.toInt = 0 := congrArg Int32.toInt ca_23
        have ia_25 : iv ra_18 0 0 := iv_Q ca_24 ira_18 (iv_k (x := 0) (k := 0) rfl) (by decide)
        have ia_26 := czra_18 ca_24
        refine lv_aload_n hx hb dX10_weigh_41 rfl (lv_at hl 1 rfl) ?_
        refine lv_iconst (v := 1) hx hb dX10_weigh_42 (by decide) ?_
        obtain ⟨_, ra_27⟩ := t_rec t hu0 (by decide) wf_10
        refine k_i (r_V C h hl (As := [.int 1]) (rest := []) (s_X10_refuseX l D G b0 τ f t u0 hu0 1 (iv_w (iv_k (x := 1) (k := 1) rfl) (by decide)) fq hfq k_u0_7 rq hRfq) ra_27 (Cn := RX10) (T := TX10) (N := 10) rfl rfl mk_X10_refuse w_519 w_521 w_8 w_522 ⟨Nat.le_of_ble_eq_true rfl, Nat.le_of_ble_eq_true rfl⟩ rfl (Nat.le_of_ble_eq_true rfl) ⟨Nat.le_of_ble_eq_true rfl, Nat.le_of_ble_eq_true rfl⟩ rfl dX10_weigh_43) h (fun ra_28 fa_29 H locs pa_30 h => ?_)
        obtain ⟨ira_28, tfa_29, ogfa_29, ⟨rq1_fa_29, kRfqfa_29, pRfqfa_29⟩, fxfa_29⟩ := pa_30
        have ofa_29 : Fr [0, 4, 12, 18, 50, 54, 12001, 12006, 18002] τ f fa_29 := Fr.tr o ogfa_29 (by decide) (by decide)
        have ka_31 := atp.fr k_u0_1 ogfa_29 hu0 (by decide)
        have ka_32 := atp.fr k_u0_7 ogfa_29 hu0 (by decide)
        have ka_33 := atp.fr k_bo_0 ogfa_29 hbo (by decide)
        have ka_34 := atp.fr k_bo_5 ogfa_29 hbo (by decide)
        have ka_35 := atp.fr k_bo_1 ogfa_29 hbo (by decide)
        have ka_36 := atp.fr k_bo_3 ogfa_29 hbo (by decide)
        have ka_37 := atp.fr k_sn_0 ogfa_29 hsn (by decide)
        have ka_38 := atp.fr k_sn_1 ogfa_29 hsn (by decide)
        have ka_39 := atp.fr k_sq_0 ogfa_29 hsq (by decide)
        have ka_40 := atp.fr k_sq_1 ogfa_29 hsq (by decide)
        have ka_41 := atp.fr hRqn ogfa_29 hqn (by decide)
        have ka_42 := atp.fr hRbf ogfa_29 hbf (by decide)
        have ka_43 := atp.fr hRqa ogfa_29 hqa (by decide)
        have ka_44 := FX.tr hfx fxfa_29 (by simp)
        have ka_45 := atp.fr kwS1 ogfa_29 tqa_6 (by decide)
        have ka_46 := atp.fr krS1 ogfa_29 twS1 (by decide)
        have ka_47 := atp.fr kxS1 ogfa_29 tqa_6 (by decide)
        have ka_48 := atp.fr kyS1 ogfa_29 tqa_6 (by decide)
        exact u_iret C h hr hQ (⟨τ, (Ex.rf τ), (iv_w ira_28 (by decide)), tfa_29, ofa_29, ⟨fun z_ => absurd z_ (by omega), fun _ => (by omega)⟩, ⟨nx, ka_34, hnx, ⟨fun z_ => absurd z_ (by omega), fun _ => rfl⟩⟩, ⟨ac, ka_33, hac, ⟨fun z_ => absurd z_ (by omega), fun _ => rfl⟩⟩, ⟨sz, ka_38, hsz, ⟨fun z_ => absurd z_ (by omega), fun _ => rfl⟩⟩, ⟨sa, ka_40, hsa, ⟨fun z_ => absurd z_ (by omega), fun _ => rfl⟩⟩, ⟨ra, ka_43, ⟨fun z_ => absurd z_ (by omega), fun _ => rfl⟩⟩, ⟨rn, ka_41, ⟨fun z_ => absurd z_ (by omega), fun _ => rfl⟩⟩, ⟨rq1_fa_29, kRfqfa_29, (bump_eq (c := 1) pRfqfa_29 rfl (by decide) (by rw [if_neg (by omega), if_pos (by omega)]))⟩, ka_44⟩) (Nat.le_of_ble_eq_true rfl) (Nat.le_of_ble_eq_true rfl) dX10_weigh_46
