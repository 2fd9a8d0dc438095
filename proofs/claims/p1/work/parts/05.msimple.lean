theorem dX11_isGuess_0 : decode cX11_isGuess 0 = .ok (.aload_n 0, 1) := by decide +kernel
theorem dX11_isGuess_1 : decode cX11_isGuess 1 = .ok (.iload_n 1, 1) := by decide +kernel
theorem dX11_isGuess_2 : decode cX11_isGuess 2 = .ok (.invokevirtual 171, 3) := by decide +kernel
theorem w_1624 : Cond.methodLink "QuarterWalksModel" 171 yX11_isSet ∈ wAll := wIn 1624 (by decide +kernel) (by decide +kernel)
theorem w_51 : Cond.selects yX11_isSet.cls yX11_isSet yX11_isSet ∈ wAll := wIn 51 (by decide +kernel) (by decide +kernel)
theorem mk_X11_isSet : mk yX11_isSet 1 := ⟨by decide +kernel, w_110⟩
theorem w_1626 : Cond.instanceMethod yX11_isSet ∈ wAll := wIn 1626 (by decide +kernel) (by decide +kernel)
theorem w_1627 : Cond.code yX11_isSet cX11_isSet 2 (some .boolean) ∈ wAll := wIn 1627 (by decide +kernel) (by decide +kernel)
theorem dX11_isGuess_5 : decode cX11_isGuess 5 = .ok (.ifCond .eq 65, 3) := by decide +kernel
theorem dX11_isGuess_70 : decode cX11_isGuess 70 = .ok (.iconst 0, 1) := by decide +kernel
theorem dX11_isGuess_71 : decode cX11_isGuess 71 = .ok (.ireturn, 1) := by decide +kernel
theorem dX11_numberOf_0 : decode cX11_numberOf 0 = .ok (.aload_n 0, 1) := by decide +kernel
theorem dX11_numberOf_1 : decode cX11_numberOf 1 = .ok (.iload_n 1, 1) := by decide +kernel
theorem dX11_numberOf_2 : decode cX11_numberOf 2 = .ok (.iload_n 2, 1) := by decide +kernel
theorem dX11_numberOf_3 : decode cX11_numberOf 3 = .ok (.iload_n 3, 1) := by decide +kernel
theorem dX11_numberOf_4 : decode cX11_numberOf 4 = .ok (.iload 4, 2) := by decide +kernel
theorem dX11_numberOf_6 : decode cX11_numberOf 6 = .ok (.iload 5, 2) := by decide +kernel
theorem dX11_numberOf_8 : decode cX11_numberOf 8 = .ok (.invokevirtual 396, 3) := by decide +kernel
theorem w_1940 : Cond.methodLink "QuarterWalksModel" 396 yX11_isGuess ∈ wAll := wIn 1940 (by decide +kernel) (by decide +kernel)
theorem w_78 : Cond.selects yX11_isGuess.cls yX11_isGuess yX11_isGuess ∈ wAll := wIn 78 (by decide +kernel) (by decide +kernel)
theorem mk_X11_isGuess : mk yX11_isGuess 5 := ⟨by decide +kernel, w_110⟩
theorem w_1942 : Cond.instanceMethod yX11_isGuess ∈ wAll := wIn 1942 (by decide +kernel) (by decide +kernel)
theorem w_1943 : Cond.code yX11_isGuess cX11_isGuess 6 (some .boolean) ∈ wAll := wIn 1943 (by decide +kernel) (by decide +kernel)
theorem dX11_numberOf_11 : decode cX11_numberOf 11 = .ok (.ifCond .eq 29, 3) := by decide +kernel
theorem dX11_numberOf_40 : decode cX11_numberOf 40 = .ok (.ldc_w 286, 3) := by decide +kernel
theorem w_1791 : Cond.constant "QuarterWalksModel" 286 (-1000000) ∈ wAll := wIn 1791 (by decide +kernel) (by decide +kernel)
theorem dX11_numberOf_43 : decode cX11_numberOf 43 = .ok (.ireturn, 1) := by decide +kernel
theorem dX11_failOf_0 : decode cX11_failOf 0 = .ok (.aload_n 0, 1) := by decide +kernel
theorem dX11_failOf_1 : decode cX11_failOf 1 = .ok (.iload_n 1, 1) := by decide +kernel
theorem dX11_failOf_2 : decode cX11_failOf 2 = .ok (.iload_n 2, 1) := by decide +kernel
theorem dX11_failOf_3 : decode cX11_failOf 3 = .ok (.iload_n 3, 1) := by decide +kernel
theorem dX11_failOf_4 : decode cX11_failOf 4 = .ok (.iload 4, 2) := by decide +kernel
theorem dX11_failOf_6 : decode cX11_failOf 6 = .ok (.iload 5, 2) := by decide +kernel
theorem dX11_failOf_8 : decode cX11_failOf 8 = .ok (.invokevirtual 396, 3) := by decide +kernel
theorem dX11_failOf_11 : decode cX11_failOf 11 = .ok (.ifCond .ne 7, 3) := by decide +kernel
theorem dX11_failOf_14 : decode cX11_failOf 14 = .ok (.ldc_w 286, 3) := by decide +kernel
theorem dX11_failOf_17 : decode cX11_failOf 17 = .ok (.ireturn, 1) := by decide +kernel
theorem dX11_drop_0 : decode cX11_drop 0 = .ok (.aload_n 0, 1) := by decide +kernel
theorem dX11_drop_1 : decode cX11_drop 1 = .ok (.iconst 0, 1) := by decide +kernel
theorem dX11_drop_2 : decode cX11_drop 2 = .ok (.putfield 75, 3) := by decide +kernel
theorem w_1433 : Cond.fieldLink "QuarterWalksModel" 75 "QuarterWalksModel" "thrown" "I" ∈ wAll := wIn 1433 (by decide +kernel) (by decide +kernel)
theorem flw_X11_75 : flw RX11 75 12 0 (.int) := ⟨RX11, TX11, 32, tyX11, rfl, inA_X11, by decide, w_1433, tyX11_ok, nmX11, by decide +kernel, Or.inl rfl⟩
theorem dX11_drop_5 : decode cX11_drop 5 = .ok (.aload_n 0, 1) := by decide +kernel
theorem dX11_drop_6 : decode cX11_drop 6 = .ok (.iload_n 1, 1) := by decide +kernel
theorem dX11_drop_7 : decode cX11_drop 7 = .ok (.invokevirtual 171, 3) := by decide +kernel
theorem dX11_drop_10 : decode cX11_drop 10 = .ok (.ifCond .ne 9, 3) := by decide +kernel
theorem dX11_drop_13 : decode cX11_drop 13 = .ok (.aload_n 0, 1) := by decide +kernel
theorem dX11_drop_14 : decode cX11_drop 14 = .ok (.iconst 0, 1) := by decide +kernel
theorem dX11_drop_15 : decode cX11_drop 15 = .ok (.invokevirtual 165, 3) := by decide +kernel
theorem w_1608 : Cond.methodLink "QuarterWalksModel" 165 yX11_refuse ∈ wAll := wIn 1608 (by decide +kernel) (by decide +kernel)
theorem w_48 : Cond.selects yX11_refuse.cls yX11_refuse yX11_refuse ∈ wAll := wIn 48 (by decide +kernel) (by decide +kernel)
theorem mk_X11_refuse : mk yX11_refuse 1 := ⟨by decide +kernel, w_110⟩
theorem w_1610 : Cond.instanceMethod yX11_refuse ∈ wAll := wIn 1610 (by decide +kernel) (by decide +kernel)
theorem w_1611 : Cond.code yX11_refuse cX11_refuse 2 (some .int) ∈ wAll := wIn 1611 (by decide +kernel) (by decide +kernel)
theorem dX11_drop_18 : decode cX11_drop 18 = .ok (.ireturn, 1) := by decide +kernel
theorem dX11_mirror_0 : decode cX11_mirror 0 = .ok (.aload_n 0, 1) := by decide +kernel
theorem dX11_mirror_1 : decode cX11_mirror 1 = .ok (.iconst 0, 1) := by decide +kernel
theorem dX11_mirror_2 : decode cX11_mirror 2 = .ok (.putfield 75, 3) := by decide +kernel
theorem dX11_mirror_5 : decode cX11_mirror 5 = .ok (.aload_n 0, 1) := by decide +kernel
theorem dX11_mirror_6 : decode cX11_mirror 6 = .ok (.iload_n 1, 1) := by decide +kernel
theorem dX11_mirror_7 : decode cX11_mirror 7 = .ok (.invokevirtual 171, 3) := by decide +kernel
theorem dX11_mirror_10 : decode cX11_mirror 10 = .ok (.ifCond .ne 9, 3) := by decide +kernel
theorem dX11_mirror_13 : decode cX11_mirror 13 = .ok (.aload_n 0, 1) := by decide +kernel
theorem dX11_mirror_14 : decode cX11_mirror 14 = .ok (.iconst 0, 1) := by decide +kernel
theorem dX11_mirror_15 : decode cX11_mirror 15 = .ok (.invokevirtual 165, 3) := by decide +kernel
theorem dX11_mirror_18 : decode cX11_mirror 18 = .ok (.ireturn, 1) := by decide +kernel
theorem dX11_turn_0 : decode cX11_turn 0 = .ok (.aload_n 0, 1) := by decide +kernel
theorem dX11_turn_1 : decode cX11_turn 1 = .ok (.iconst 0, 1) := by decide +kernel
theorem dX11_turn_2 : decode cX11_turn 2 = .ok (.putfield 75, 3) := by decide +kernel
theorem dX11_turn_5 : decode cX11_turn 5 = .ok (.aload_n 0, 1) := by decide +kernel
theorem dX11_turn_6 : decode cX11_turn 6 = .ok (.iload_n 1, 1) := by decide +kernel
theorem dX11_turn_7 : decode cX11_turn 7 = .ok (.invokevirtual 171, 3) := by decide +kernel
theorem dX11_turn_10 : decode cX11_turn 10 = .ok (.ifCond .ne 9, 3) := by decide +kernel
theorem dX11_turn_13 : decode cX11_turn 13 = .ok (.aload_n 0, 1) := by decide +kernel
theorem dX11_turn_14 : decode cX11_turn 14 = .ok (.iconst 0, 1) := by decide +kernel
theorem dX11_turn_15 : decode cX11_turn 15 = .ok (.invokevirtual 165, 3) := by decide +kernel
theorem dX11_turn_18 : decode cX11_turn 18 = .ok (.ireturn, 1) := by decide +kernel
theorem dX11_join_0 : decode cX11_join 0 = .ok (.aload_n 0, 1) := by decide +kernel
theorem dX11_join_1 : decode cX11_join 1 = .ok (.iconst 0, 1) := by decide +kernel
theorem dX11_join_2 : decode cX11_join 2 = .ok (.putfield 75, 3) := by decide +kernel
theorem dX11_join_5 : decode cX11_join 5 = .ok (.aload_n 0, 1) := by decide +kernel
theorem dX11_join_6 : decode cX11_join 6 = .ok (.iload_n 1, 1) := by decide +kernel
theorem dX11_join_7 : decode cX11_join 7 = .ok (.invokevirtual 171, 3) := by decide +kernel
theorem dX11_join_10 : decode cX11_join 10 = .ok (.ifCond .eq 11, 3) := by decide +kernel
theorem dX11_join_21 : decode cX11_join 21 = .ok (.aload_n 0, 1) := by decide +kernel
theorem dX11_join_22 : decode cX11_join 22 = .ok (.iconst 0, 1) := by decide +kernel
theorem dX11_join_23 : decode cX11_join 23 = .ok (.invokevirtual 165, 3) := by decide +kernel
theorem dX11_join_26 : decode cX11_join 26 = .ok (.ireturn, 1) := by decide +kernel
theorem dX11_scale_0 : decode cX11_scale 0 = .ok (.aload_n 0, 1) := by decide +kernel
theorem dX11_scale_1 : decode cX11_scale 1 = .ok (.iconst 0, 1) := by decide +kernel
theorem dX11_scale_2 : decode cX11_scale 2 = .ok (.putfield 75, 3) := by decide +kernel
theorem dX11_scale_5 : decode cX11_scale 5 = .ok (.aload_n 0, 1) := by decide +kernel
theorem dX11_scale_6 : decode cX11_scale 6 = .ok (.iload_n 1, 1) := by decide +kernel
theorem dX11_scale_7 : decode cX11_scale 7 = .ok (.invokevirtual 171, 3) := by decide +kernel
theorem dX11_scale_10 : decode cX11_scale 10 = .ok (.ifCond .ne 9, 3) := by decide +kernel
theorem dX11_scale_13 : decode cX11_scale 13 = .ok (.aload_n 0, 1) := by decide +kernel
theorem dX11_scale_14 : decode cX11_scale 14 = .ok (.iconst 0, 1) := by decide +kernel
theorem dX11_scale_15 : decode cX11_scale 15 = .ok (.invokevirtual 165, 3) := by decide +kernel
theorem dX11_scale_18 : decode cX11_scale 18 = .ok (.ireturn, 1) := by decide +kernel
theorem dX11_weigh_0 : decode cX11_weigh 0 = .ok (.aload_n 0, 1) := by decide +kernel
theorem dX11_weigh_1 : decode cX11_weigh 1 = .ok (.iconst 0, 1) := by decide +kernel
theorem dX11_weigh_2 : decode cX11_weigh 2 = .ok (.putfield 75, 3) := by decide +kernel
theorem dX11_weigh_5 : decode cX11_weigh 5 = .ok (.aload_n 0, 1) := by decide +kernel
theorem dX11_weigh_6 : decode cX11_weigh 6 = .ok (.iload_n 1, 1) := by decide +kernel
theorem dX11_weigh_7 : decode cX11_weigh 7 = .ok (.invokevirtual 171, 3) := by decide +kernel
theorem dX11_weigh_10 : decode cX11_weigh 10 = .ok (.ifCond .ne 9, 3) := by decide +kernel
theorem dX11_weigh_13 : decode cX11_weigh 13 = .ok (.aload_n 0, 1) := by decide +kernel
theorem dX11_weigh_14 : decode cX11_weigh 14 = .ok (.iconst 0, 1) := by decide +kernel
theorem dX11_weigh_15 : decode cX11_weigh 15 = .ok (.invokevirtual 165, 3) := by decide +kernel
theorem dX11_weigh_18 : decode cX11_weigh 18 = .ok (.ireturn, 1) := by decide +kernel
theorem dX11_start_0 : decode cX11_start 0 = .ok (.aload_n 0, 1) := by decide +kernel
theorem dX11_start_1 : decode cX11_start 1 = .ok (.iconst 0, 1) := by decide +kernel
theorem dX11_start_2 : decode cX11_start 2 = .ok (.putfield 75, 3) := by decide +kernel
theorem dX11_start_5 : decode cX11_start 5 = .ok (.aload_n 0, 1) := by decide +kernel
theorem dX11_start_6 : decode cX11_start 6 = .ok (.iload_n 1, 1) := by decide +kernel
theorem dX11_start_7 : decode cX11_start 7 = .ok (.invokevirtual 171, 3) := by decide +kernel
theorem dX11_start_10 : decode cX11_start 10 = .ok (.ifCond .ne 9, 3) := by decide +kernel
theorem dX11_start_13 : decode cX11_start 13 = .ok (.aload_n 0, 1) := by decide +kernel
theorem dX11_start_14 : decode cX11_start 14 = .ok (.iconst 0, 1) := by decide +kernel
theorem dX11_start_15 : decode cX11_start 15 = .ok (.invokevirtual 165, 3) := by decide +kernel
theorem dX11_start_18 : decode cX11_start 18 = .ok (.ireturn, 1) := by decide +kernel
theorem dX11_at_0 : decode cX11_at 0 = .ok (.aload_n 0, 1) := by decide +kernel
theorem dX11_at_1 : decode cX11_at 1 = .ok (.iconst 0, 1) := by decide +kernel
theorem dX11_at_2 : decode cX11_at 2 = .ok (.putfield 75, 3) := by decide +kernel
theorem dX11_at_5 : decode cX11_at 5 = .ok (.iload_n 1, 1) := by decide +kernel
theorem dX11_at_6 : decode cX11_at 6 = .ok (.i2l, 1) := by decide +kernel
theorem dX11_at_7 : decode cX11_at 7 = .ok (.lconst 0, 1) := by decide +kernel
theorem dX11_at_8 : decode cX11_at 8 = .ok (.ldc2_w 179, 3) := by decide +kernel
theorem w_1651 : Cond.constantLong "QuarterWalksModel" 179 2 ∈ wAll := wIn 1651 (by decide +kernel) (by decide +kernel)
theorem dX11_at_11 : decode cX11_at 11 = .ok (.invokestatic 158, 3) := by decide +kernel
theorem dX11_at_14 : decode cX11_at 14 = .ok (.ifCond .eq 28, 3) := by decide +kernel
theorem dX11_at_42 : decode cX11_at 42 = .ok (.iconst (-1), 1) := by decide +kernel
theorem dX11_at_43 : decode cX11_at 43 = .ok (.ireturn, 1) := by decide +kernel
theorem dX11_at_17 : decode cX11_at 17 = .ok (.aload_n 0, 1) := by decide +kernel
theorem dX11_at_18 : decode cX11_at 18 = .ok (.iload_n 2, 1) := by decide +kernel
theorem dX11_at_19 : decode cX11_at 19 = .ok (.invokevirtual 171, 3) := by decide +kernel
theorem dX11_at_22 : decode cX11_at 22 = .ok (.ifCond .eq 20, 3) := by decide +kernel
theorem dX11_series_0 : decode cX11_series 0 = .ok (.aload_n 0, 1) := by decide +kernel
theorem dX11_series_1 : decode cX11_series 1 = .ok (.iconst 0, 1) := by decide +kernel
theorem dX11_series_2 : decode cX11_series 2 = .ok (.putfield 75, 3) := by decide +kernel
theorem dX11_series_5 : decode cX11_series 5 = .ok (.aload_n 0, 1) := by decide +kernel
theorem dX11_series_6 : decode cX11_series 6 = .ok (.iload_n 1, 1) := by decide +kernel
theorem dX11_series_7 : decode cX11_series 7 = .ok (.invokevirtual 171, 3) := by decide +kernel
theorem dX11_series_10 : decode cX11_series 10 = .ok (.ifCond .eq 22, 3) := by decide +kernel
theorem dX11_series_32 : decode cX11_series 32 = .ok (.iconst (-1), 1) := by decide +kernel
theorem dX11_series_33 : decode cX11_series 33 = .ok (.ireturn, 1) := by decide +kernel
theorem dX11_exact_0 : decode cX11_exact 0 = .ok (.aload_n 0, 1) := by decide +kernel
theorem dX11_exact_1 : decode cX11_exact 1 = .ok (.iconst 0, 1) := by decide +kernel
theorem dX11_exact_2 : decode cX11_exact 2 = .ok (.putfield 75, 3) := by decide +kernel
theorem dX11_exact_5 : decode cX11_exact 5 = .ok (.aload_n 0, 1) := by decide +kernel
theorem dX11_exact_6 : decode cX11_exact 6 = .ok (.iload_n 1, 1) := by decide +kernel
theorem dX11_exact_7 : decode cX11_exact 7 = .ok (.invokevirtual 171, 3) := by decide +kernel
theorem dX11_exact_10 : decode cX11_exact 10 = .ok (.ifCond .eq 28, 3) := by decide +kernel
theorem dX11_exact_38 : decode cX11_exact 38 = .ok (.ldc2_w 270, 3) := by decide +kernel
theorem w_1752 : Cond.constantLong "QuarterWalksModel" 270 (-1) ∈ wAll := wIn 1752 (by decide +kernel) (by decide +kernel)
theorem dX11_exact_41 : decode cX11_exact 41 = .ok (.lreturn, 1) := by decide +kernel
theorem dX11_bridge_0 : decode cX11_bridge 0 = .ok (.aload_n 0, 1) := by decide +kernel
theorem dX11_bridge_1 : decode cX11_bridge 1 = .ok (.iconst 0, 1) := by decide +kernel
theorem dX11_bridge_2 : decode cX11_bridge 2 = .ok (.putfield 75, 3) := by decide +kernel
theorem dX11_bridge_5 : decode cX11_bridge 5 = .ok (.aload_n 0, 1) := by decide +kernel
theorem dX11_bridge_6 : decode cX11_bridge 6 = .ok (.iload_n 1, 1) := by decide +kernel
theorem dX11_bridge_7 : decode cX11_bridge 7 = .ok (.invokevirtual 171, 3) := by decide +kernel
theorem dX11_bridge_10 : decode cX11_bridge 10 = .ok (.ifCond .eq 19, 3) := by decide +kernel
theorem dX11_bridge_29 : decode cX11_bridge 29 = .ok (.iconst (-1), 1) := by decide +kernel
theorem dX11_bridge_30 : decode cX11_bridge 30 = .ok (.ireturn, 1) := by decide +kernel
theorem dX11_reflected_0 : decode cX11_reflected 0 = .ok (.aload_n 0, 1) := by decide +kernel
theorem dX11_reflected_1 : decode cX11_reflected 1 = .ok (.iconst 0, 1) := by decide +kernel
theorem dX11_reflected_2 : decode cX11_reflected 2 = .ok (.putfield 75, 3) := by decide +kernel
theorem dX11_reflected_5 : decode cX11_reflected 5 = .ok (.aload_n 0, 1) := by decide +kernel
theorem dX11_reflected_6 : decode cX11_reflected 6 = .ok (.iload_n 1, 1) := by decide +kernel
theorem dX11_reflected_7 : decode cX11_reflected 7 = .ok (.invokevirtual 171, 3) := by decide +kernel
theorem dX11_reflected_10 : decode cX11_reflected 10 = .ok (.ifCond .eq 43, 3) := by decide +kernel
theorem dX11_reflected_53 : decode cX11_reflected 53 = .ok (.ldc_w 286, 3) := by decide +kernel
theorem dX11_reflected_56 : decode cX11_reflected 56 = .ok (.ireturn, 1) := by decide +kernel
theorem dX11_rank_0 : decode cX11_rank 0 = .ok (.aload_n 0, 1) := by decide +kernel
theorem dX11_rank_1 : decode cX11_rank 1 = .ok (.iconst 0, 1) := by decide +kernel
theorem dX11_rank_2 : decode cX11_rank 2 = .ok (.putfield 75, 3) := by decide +kernel
theorem dX11_rank_5 : decode cX11_rank 5 = .ok (.aload_n 0, 1) := by decide +kernel
theorem dX11_rank_6 : decode cX11_rank 6 = .ok (.iload_n 1, 1) := by decide +kernel
theorem dX11_rank_7 : decode cX11_rank 7 = .ok (.invokevirtual 171, 3) := by decide +kernel
theorem dX11_rank_10 : decode cX11_rank 10 = .ok (.ifCond .eq 15, 3) := by decide +kernel
theorem dX11_rank_25 : decode cX11_rank 25 = .ok (.iconst (-1), 1) := by decide +kernel
theorem dX11_rank_26 : decode cX11_rank 26 = .ok (.ireturn, 1) := by decide +kernel
theorem dX11_ratio_0 : decode cX11_ratio 0 = .ok (.aload_n 0, 1) := by decide +kernel
theorem dX11_ratio_1 : decode cX11_ratio 1 = .ok (.iconst 0, 1) := by decide +kernel
theorem dX11_ratio_2 : decode cX11_ratio 2 = .ok (.putfield 75, 3) := by decide +kernel
theorem dX11_ratio_5 : decode cX11_ratio 5 = .ok (.aload_n 0, 1) := by decide +kernel
theorem dX11_ratio_6 : decode cX11_ratio 6 = .ok (.iload_n 1, 1) := by decide +kernel
theorem dX11_ratio_7 : decode cX11_ratio 7 = .ok (.invokevirtual 171, 3) := by decide +kernel
theorem dX11_ratio_10 : decode cX11_ratio 10 = .ok (.ifCond .eq 27, 3) := by decide +kernel
theorem dX11_ratio_37 : decode cX11_ratio 37 = .ok (.iconst (-1), 1) := by decide +kernel
theorem dX11_ratio_38 : decode cX11_ratio 38 = .ok (.ireturn, 1) := by decide +kernel
theorem dX11_hankel_0 : decode cX11_hankel 0 = .ok (.aload_n 0, 1) := by decide +kernel
theorem dX11_hankel_1 : decode cX11_hankel 1 = .ok (.iconst 0, 1) := by decide +kernel
theorem dX11_hankel_2 : decode cX11_hankel 2 = .ok (.putfield 75, 3) := by decide +kernel
theorem dX11_hankel_5 : decode cX11_hankel 5 = .ok (.aload_n 0, 1) := by decide +kernel
theorem dX11_hankel_6 : decode cX11_hankel 6 = .ok (.iload_n 1, 1) := by decide +kernel
theorem dX11_hankel_7 : decode cX11_hankel 7 = .ok (.invokevirtual 171, 3) := by decide +kernel
theorem dX11_hankel_10 : decode cX11_hankel 10 = .ok (.ifCond .eq 27, 3) := by decide +kernel
theorem dX11_hankel_37 : decode cX11_hankel 37 = .ok (.iconst (-1), 1) := by decide +kernel
theorem dX11_hankel_38 : decode cX11_hankel 38 = .ok (.ireturn, 1) := by decide +kernel
theorem dX11_convolved_0 : decode cX11_convolved 0 = .ok (.aload_n 0, 1) := by decide +kernel
theorem dX11_convolved_1 : decode cX11_convolved 1 = .ok (.iconst 0, 1) := by decide +kernel
theorem dX11_convolved_2 : decode cX11_convolved 2 = .ok (.putfield 75, 3) := by decide +kernel
theorem dX11_convolved_5 : decode cX11_convolved 5 = .ok (.aload_n 0, 1) := by decide +kernel
theorem dX11_convolved_6 : decode cX11_convolved 6 = .ok (.iload_n 1, 1) := by decide +kernel
theorem dX11_convolved_7 : decode cX11_convolved 7 = .ok (.invokevirtual 171, 3) := by decide +kernel
theorem dX11_convolved_10 : decode cX11_convolved 10 = .ok (.ifCond .eq 44, 3) := by decide +kernel
theorem dX11_convolved_54 : decode cX11_convolved 54 = .ok (.iconst (-1), 1) := by decide +kernel
theorem dX11_convolved_55 : decode cX11_convolved 55 = .ok (.ireturn, 1) := by decide +kernel
theorem dX11_out_0 : decode cX11_out 0 = .ok (.aload_n 0, 1) := by decide +kernel
theorem dX11_out_1 : decode cX11_out 1 = .ok (.iconst 0, 1) := by decide +kernel
theorem dX11_out_2 : decode cX11_out 2 = .ok (.putfield 75, 3) := by decide +kernel
theorem dX11_out_5 : decode cX11_out 5 = .ok (.aload_n 0, 1) := by decide +kernel
theorem dX11_out_6 : decode cX11_out 6 = .ok (.iload_n 1, 1) := by decide +kernel
theorem dX11_out_7 : decode cX11_out 7 = .ok (.invokevirtual 171, 3) := by decide +kernel
theorem dX11_out_10 : decode cX11_out 10 = .ok (.ifCond .eq 10, 3) := by decide +kernel
theorem dX11_out_20 : decode cX11_out 20 = .ok (.iconst (-1), 1) := by decide +kernel
theorem dX11_out_21 : decode cX11_out 21 = .ok (.ireturn, 1) := by decide +kernel
theorem dX11_arches_0 : decode cX11_arches 0 = .ok (.aload_n 0, 1) := by decide +kernel
theorem dX11_arches_1 : decode cX11_arches 1 = .ok (.iconst 0, 1) := by decide +kernel
theorem dX11_arches_2 : decode cX11_arches 2 = .ok (.putfield 75, 3) := by decide +kernel
theorem dX11_arches_5 : decode cX11_arches 5 = .ok (.aload_n 0, 1) := by decide +kernel
theorem dX11_arches_6 : decode cX11_arches 6 = .ok (.iload_n 1, 1) := by decide +kernel
theorem dX11_arches_7 : decode cX11_arches 7 = .ok (.invokevirtual 171, 3) := by decide +kernel
theorem dX11_arches_10 : decode cX11_arches 10 = .ok (.ifCond .eq 15, 3) := by decide +kernel
theorem dX11_arches_25 : decode cX11_arches 25 = .ok (.iconst (-1), 1) := by decide +kernel
theorem dX11_arches_26 : decode cX11_arches 26 = .ok (.ireturn, 1) := by decide +kernel
theorem dX11_value_0 : decode cX11_value 0 = .ok (.aload_n 0, 1) := by decide +kernel
theorem dX11_value_1 : decode cX11_value 1 = .ok (.iconst 0, 1) := by decide +kernel
theorem dX11_value_2 : decode cX11_value 2 = .ok (.putfield 75, 3) := by decide +kernel
theorem dX11_value_5 : decode cX11_value 5 = .ok (.aload_n 0, 1) := by decide +kernel
theorem dX11_value_6 : decode cX11_value 6 = .ok (.iload_n 1, 1) := by decide +kernel
theorem dX11_value_7 : decode cX11_value 7 = .ok (.invokevirtual 171, 3) := by decide +kernel
theorem dX11_value_10 : decode cX11_value 10 = .ok (.ifCond .eq 35, 3) := by decide +kernel
theorem dX11_value_45 : decode cX11_value 45 = .ok (.iconst (-1), 1) := by decide +kernel
theorem dX11_value_46 : decode cX11_value 46 = .ok (.ireturn, 1) := by decide +kernel
theorem dX11_walk_0 : decode cX11_walk 0 = .ok (.aload_n 0, 1) := by decide +kernel
theorem dX11_walk_1 : decode cX11_walk 1 = .ok (.iconst 0, 1) := by decide +kernel
theorem dX11_walk_2 : decode cX11_walk 2 = .ok (.putfield 75, 3) := by decide +kernel
theorem dX11_walk_5 : decode cX11_walk 5 = .ok (.aload_n 0, 1) := by decide +kernel
theorem dX11_walk_6 : decode cX11_walk 6 = .ok (.iload_n 1, 1) := by decide +kernel
theorem dX11_walk_7 : decode cX11_walk 7 = .ok (.invokevirtual 171, 3) := by decide +kernel
theorem dX11_walk_10 : decode cX11_walk 10 = .ok (.ifCond .eq 25, 3) := by decide +kernel
theorem dX11_walk_35 : decode cX11_walk 35 = .ok (.ldc_w 286, 3) := by decide +kernel
theorem dX11_walk_38 : decode cX11_walk 38 = .ok (.ireturn, 1) := by decide +kernel
theorem dX11_drawn_0 : decode cX11_drawn 0 = .ok (.aload_n 0, 1) := by decide +kernel
theorem dX11_drawn_1 : decode cX11_drawn 1 = .ok (.iconst 0, 1) := by decide +kernel
theorem dX11_drawn_2 : decode cX11_drawn 2 = .ok (.putfield 75, 3) := by decide +kernel
theorem dX11_drawn_5 : decode cX11_drawn 5 = .ok (.aload_n 0, 1) := by decide +kernel
theorem dX11_drawn_6 : decode cX11_drawn 6 = .ok (.iload_n 1, 1) := by decide +kernel
theorem dX11_drawn_7 : decode cX11_drawn 7 = .ok (.invokevirtual 171, 3) := by decide +kernel
theorem dX11_drawn_10 : decode cX11_drawn 10 = .ok (.ifCond .eq 33, 3) := by decide +kernel
theorem dX11_drawn_43 : decode cX11_drawn 43 = .ok (.ldc_w 286, 3) := by decide +kernel
theorem dX11_drawn_46 : decode cX11_drawn 46 = .ok (.ireturn, 1) := by decide +kernel
theorem dX11_peak_0 : decode cX11_peak 0 = .ok (.aload_n 0, 1) := by decide +kernel
theorem dX11_peak_1 : decode cX11_peak 1 = .ok (.iconst 0, 1) := by decide +kernel
theorem dX11_peak_2 : decode cX11_peak 2 = .ok (.putfield 75, 3) := by decide +kernel
theorem dX11_peak_5 : decode cX11_peak 5 = .ok (.aload_n 0, 1) := by decide +kernel
theorem dX11_peak_6 : decode cX11_peak 6 = .ok (.iload_n 1, 1) := by decide +kernel
theorem dX11_peak_7 : decode cX11_peak 7 = .ok (.invokevirtual 171, 3) := by decide +kernel
theorem dX11_peak_10 : decode cX11_peak 10 = .ok (.ifCond .eq 22, 3) := by decide +kernel
theorem dX11_peak_32 : decode cX11_peak 32 = .ok (.ldc_w 286, 3) := by decide +kernel
theorem dX11_peak_35 : decode cX11_peak 35 = .ok (.ireturn, 1) := by decide +kernel
theorem dX11_points_0 : decode cX11_points 0 = .ok (.aload_n 0, 1) := by decide +kernel
theorem dX11_points_1 : decode cX11_points 1 = .ok (.iconst 0, 1) := by decide +kernel
theorem dX11_points_2 : decode cX11_points 2 = .ok (.putfield 75, 3) := by decide +kernel
theorem dX11_points_5 : decode cX11_points 5 = .ok (.aload_n 0, 1) := by decide +kernel
theorem dX11_points_6 : decode cX11_points 6 = .ok (.iload_n 1, 1) := by decide +kernel
theorem dX11_points_7 : decode cX11_points 7 = .ok (.invokevirtual 171, 3) := by decide +kernel
theorem dX11_points_10 : decode cX11_points 10 = .ok (.ifCond .eq 10, 3) := by decide +kernel
theorem dX11_points_20 : decode cX11_points 20 = .ok (.iconst (-1), 1) := by decide +kernel
theorem dX11_points_21 : decode cX11_points 21 = .ok (.ireturn, 1) := by decide +kernel
theorem dX11_fewest_0 : decode cX11_fewest 0 = .ok (.aload_n 0, 1) := by decide +kernel
theorem dX11_fewest_1 : decode cX11_fewest 1 = .ok (.iconst 0, 1) := by decide +kernel
theorem dX11_fewest_2 : decode cX11_fewest 2 = .ok (.putfield 75, 3) := by decide +kernel
theorem dX11_fewest_5 : decode cX11_fewest 5 = .ok (.aload_n 0, 1) := by decide +kernel
theorem dX11_fewest_6 : decode cX11_fewest 6 = .ok (.iload_n 1, 1) := by decide +kernel
theorem dX11_fewest_7 : decode cX11_fewest 7 = .ok (.invokevirtual 171, 3) := by decide +kernel
theorem dX11_fewest_10 : decode cX11_fewest 10 = .ok (.ifCond .eq 11, 3) := by decide +kernel
theorem dX11_fewest_21 : decode cX11_fewest 21 = .ok (.iconst (-1), 1) := by decide +kernel
theorem dX11_fewest_22 : decode cX11_fewest 22 = .ok (.ireturn, 1) := by decide +kernel
theorem dX11_period_0 : decode cX11_period 0 = .ok (.aload_n 0, 1) := by decide +kernel
theorem dX11_period_1 : decode cX11_period 1 = .ok (.iconst 0, 1) := by decide +kernel
theorem dX11_period_2 : decode cX11_period 2 = .ok (.putfield 75, 3) := by decide +kernel
theorem dX11_period_5 : decode cX11_period 5 = .ok (.aload_n 0, 1) := by decide +kernel
theorem dX11_period_6 : decode cX11_period 6 = .ok (.iload_n 1, 1) := by decide +kernel
theorem dX11_period_7 : decode cX11_period 7 = .ok (.invokevirtual 171, 3) := by decide +kernel
theorem dX11_period_10 : decode cX11_period 10 = .ok (.ifCond .ne 5, 3) := by decide +kernel
theorem dX11_period_13 : decode cX11_period 13 = .ok (.iconst (-1), 1) := by decide +kernel
theorem dX11_period_14 : decode cX11_period 14 = .ok (.ireturn, 1) := by decide +kernel
theorem dX11_meet_0 : decode cX11_meet 0 = .ok (.aload_n 0, 1) := by decide +kernel
theorem dX11_meet_1 : decode cX11_meet 1 = .ok (.iconst 0, 1) := by decide +kernel
theorem dX11_meet_2 : decode cX11_meet 2 = .ok (.putfield 75, 3) := by decide +kernel
theorem dX11_meet_5 : decode cX11_meet 5 = .ok (.aload_n 0, 1) := by decide +kernel
theorem dX11_meet_6 : decode cX11_meet 6 = .ok (.iload_n 1, 1) := by decide +kernel
theorem dX11_meet_7 : decode cX11_meet 7 = .ok (.invokevirtual 171, 3) := by decide +kernel
theorem dX11_meet_10 : decode cX11_meet 10 = .ok (.ifCond .eq 18, 3) := by decide +kernel
theorem dX11_meet_28 : decode cX11_meet 28 = .ok (.iconst (-1), 1) := by decide +kernel
theorem dX11_meet_29 : decode cX11_meet 29 = .ok (.ireturn, 1) := by decide +kernel
theorem dX11_kernel_0 : decode cX11_kernel 0 = .ok (.aload_n 0, 1) := by decide +kernel
theorem dX11_kernel_1 : decode cX11_kernel 1 = .ok (.iconst 0, 1) := by decide +kernel
theorem dX11_kernel_2 : decode cX11_kernel 2 = .ok (.putfield 75, 3) := by decide +kernel
theorem dX11_kernel_5 : decode cX11_kernel 5 = .ok (.aload_n 0, 1) := by decide +kernel
theorem dX11_kernel_6 : decode cX11_kernel 6 = .ok (.iload_n 1, 1) := by decide +kernel
theorem dX11_kernel_7 : decode cX11_kernel 7 = .ok (.invokevirtual 171, 3) := by decide +kernel
theorem dX11_kernel_10 : decode cX11_kernel 10 = .ok (.ifCond .eq 11, 3) := by decide +kernel
theorem dX11_kernel_21 : decode cX11_kernel 21 = .ok (.iconst (-1), 1) := by decide +kernel
theorem dX11_kernel_22 : decode cX11_kernel 22 = .ok (.ireturn, 1) := by decide +kernel
theorem dX11_turned_0 : decode cX11_turned 0 = .ok (.aload_n 0, 1) := by decide +kernel
theorem dX11_turned_1 : decode cX11_turned 1 = .ok (.iconst 0, 1) := by decide +kernel
theorem dX11_turned_2 : decode cX11_turned 2 = .ok (.putfield 75, 3) := by decide +kernel
theorem dX11_turned_5 : decode cX11_turned 5 = .ok (.aload_n 0, 1) := by decide +kernel
theorem dX11_turned_6 : decode cX11_turned 6 = .ok (.iload_n 1, 1) := by decide +kernel
theorem dX11_turned_7 : decode cX11_turned 7 = .ok (.invokevirtual 171, 3) := by decide +kernel
theorem dX11_turned_10 : decode cX11_turned 10 = .ok (.ifCond .eq 34, 3) := by decide +kernel
theorem dX11_turned_44 : decode cX11_turned 44 = .ok (.iconst (-1), 1) := by decide +kernel
theorem dX11_turned_45 : decode cX11_turned 45 = .ok (.ireturn, 1) := by decide +kernel
theorem dX11_orbit_0 : decode cX11_orbit 0 = .ok (.aload_n 0, 1) := by decide +kernel
theorem dX11_orbit_1 : decode cX11_orbit 1 = .ok (.iconst 0, 1) := by decide +kernel
theorem dX11_orbit_2 : decode cX11_orbit 2 = .ok (.putfield 75, 3) := by decide +kernel
theorem dX11_orbit_5 : decode cX11_orbit 5 = .ok (.aload_n 0, 1) := by decide +kernel
theorem dX11_orbit_6 : decode cX11_orbit 6 = .ok (.iload_n 1, 1) := by decide +kernel
theorem dX11_orbit_7 : decode cX11_orbit 7 = .ok (.invokevirtual 171, 3) := by decide +kernel
theorem dX11_orbit_10 : decode cX11_orbit 10 = .ok (.ifCond .eq 34, 3) := by decide +kernel
theorem dX11_orbit_44 : decode cX11_orbit 44 = .ok (.bipush (-2), 2) := by decide +kernel
theorem dX11_orbit_46 : decode cX11_orbit 46 = .ok (.ireturn, 1) := by decide +kernel
theorem dX11_group_0 : decode cX11_group 0 = .ok (.aload_n 0, 1) := by decide +kernel
theorem dX11_group_1 : decode cX11_group 1 = .ok (.iconst 0, 1) := by decide +kernel
theorem dX11_group_2 : decode cX11_group 2 = .ok (.putfield 75, 3) := by decide +kernel
theorem dX11_group_5 : decode cX11_group 5 = .ok (.aload_n 0, 1) := by decide +kernel
theorem dX11_group_6 : decode cX11_group 6 = .ok (.iload_n 1, 1) := by decide +kernel
theorem dX11_group_7 : decode cX11_group 7 = .ok (.invokevirtual 171, 3) := by decide +kernel
theorem dX11_group_10 : decode cX11_group 10 = .ok (.ifCond .eq 11, 3) := by decide +kernel
theorem dX11_group_21 : decode cX11_group 21 = .ok (.bipush (-2), 2) := by decide +kernel
theorem dX11_group_23 : decode cX11_group 23 = .ok (.ireturn, 1) := by decide +kernel
theorem dX11_sum_0 : decode cX11_sum 0 = .ok (.aload_n 0, 1) := by decide +kernel
theorem dX11_sum_1 : decode cX11_sum 1 = .ok (.iconst 0, 1) := by decide +kernel
theorem dX11_sum_2 : decode cX11_sum 2 = .ok (.putfield 75, 3) := by decide +kernel
theorem dX11_sum_5 : decode cX11_sum 5 = .ok (.aload_n 0, 1) := by decide +kernel
theorem dX11_sum_6 : decode cX11_sum 6 = .ok (.iload_n 1, 1) := by decide +kernel
theorem dX11_sum_7 : decode cX11_sum 7 = .ok (.invokevirtual 171, 3) := by decide +kernel
theorem dX11_sum_10 : decode cX11_sum 10 = .ok (.ifCond .eq 11, 3) := by decide +kernel
theorem dX11_sum_21 : decode cX11_sum 21 = .ok (.bipush (-2), 2) := by decide +kernel
theorem dX11_sum_23 : decode cX11_sum 23 = .ok (.ireturn, 1) := by decide +kernel
theorem dX11_noUse_0 : decode cX11_noUse 0 = .ok (.aload_n 0, 1) := by decide +kernel
theorem dX11_noUse_1 : decode cX11_noUse 1 = .ok (.iconst 0, 1) := by decide +kernel
theorem dX11_noUse_2 : decode cX11_noUse 2 = .ok (.putfield 75, 3) := by decide +kernel
theorem dX11_noUse_5 : decode cX11_noUse 5 = .ok (.aload_n 0, 1) := by decide +kernel
theorem dX11_noUse_6 : decode cX11_noUse 6 = .ok (.iload_n 1, 1) := by decide +kernel
theorem dX11_noUse_7 : decode cX11_noUse 7 = .ok (.invokevirtual 171, 3) := by decide +kernel
theorem dX11_noUse_10 : decode cX11_noUse 10 = .ok (.ifCond .ne 5, 3) := by decide +kernel
theorem dX11_noUse_13 : decode cX11_noUse 13 = .ok (.iconst (-1), 1) := by decide +kernel
theorem dX11_noUse_14 : decode cX11_noUse 14 = .ok (.ireturn, 1) := by decide +kernel
theorem dX11_enough_0 : decode cX11_enough 0 = .ok (.aload_n 0, 1) := by decide +kernel
theorem dX11_enough_1 : decode cX11_enough 1 = .ok (.iconst 0, 1) := by decide +kernel
theorem dX11_enough_2 : decode cX11_enough 2 = .ok (.putfield 75, 3) := by decide +kernel
theorem dX11_enough_5 : decode cX11_enough 5 = .ok (.aload_n 0, 1) := by decide +kernel
theorem dX11_enough_6 : decode cX11_enough 6 = .ok (.iload_n 1, 1) := by decide +kernel
theorem dX11_enough_7 : decode cX11_enough 7 = .ok (.invokevirtual 171, 3) := by decide +kernel
theorem dX11_enough_10 : decode cX11_enough 10 = .ok (.ifCond .eq 35, 3) := by decide +kernel
theorem dX11_enough_45 : decode cX11_enough 45 = .ok (.iconst (-1), 1) := by decide +kernel
theorem dX11_enough_46 : decode cX11_enough 46 = .ok (.ireturn, 1) := by decide +kernel
theorem dX11_alike_0 : decode cX11_alike 0 = .ok (.aload_n 0, 1) := by decide +kernel
theorem dX11_alike_1 : decode cX11_alike 1 = .ok (.iconst 0, 1) := by decide +kernel
theorem dX11_alike_2 : decode cX11_alike 2 = .ok (.putfield 75, 3) := by decide +kernel
theorem dX11_alike_5 : decode cX11_alike 5 = .ok (.aload_n 0, 1) := by decide +kernel
theorem dX11_alike_6 : decode cX11_alike 6 = .ok (.iload_n 1, 1) := by decide +kernel
theorem dX11_alike_7 : decode cX11_alike 7 = .ok (.invokevirtual 171, 3) := by decide +kernel
theorem dX11_alike_10 : decode cX11_alike 10 = .ok (.ifCond .ne 5, 3) := by decide +kernel
theorem dX11_alike_13 : decode cX11_alike 13 = .ok (.iconst (-1), 1) := by decide +kernel
theorem dX11_alike_14 : decode cX11_alike 14 = .ok (.ireturn, 1) := by decide +kernel
theorem dX11_recurrence_0 : decode cX11_recurrence 0 = .ok (.aload_n 0, 1) := by decide +kernel
theorem dX11_recurrence_1 : decode cX11_recurrence 1 = .ok (.iconst 0, 1) := by decide +kernel
theorem dX11_recurrence_2 : decode cX11_recurrence 2 = .ok (.putfield 75, 3) := by decide +kernel
theorem dX11_recurrence_5 : decode cX11_recurrence 5 = .ok (.aload_n 0, 1) := by decide +kernel
theorem dX11_recurrence_6 : decode cX11_recurrence 6 = .ok (.iload_n 1, 1) := by decide +kernel
theorem dX11_recurrence_7 : decode cX11_recurrence 7 = .ok (.iload_n 2, 1) := by decide +kernel
theorem dX11_recurrence_8 : decode cX11_recurrence 8 = .ok (.iconst 0, 1) := by decide +kernel
theorem dX11_recurrence_9 : decode cX11_recurrence 9 = .ok (.iload_n 3, 1) := by decide +kernel
theorem dX11_recurrence_10 : decode cX11_recurrence 10 = .ok (.iload 4, 2) := by decide +kernel
theorem dX11_recurrence_12 : decode cX11_recurrence 12 = .ok (.iload 5, 2) := by decide +kernel
theorem dX11_recurrence_14 : decode cX11_recurrence 14 = .ok (.iload 6, 2) := by decide +kernel
theorem dX11_recurrence_16 : decode cX11_recurrence 16 = .ok (.invokevirtual 409, 3) := by decide +kernel
theorem w_1936 : Cond.methodLink "QuarterWalksModel" 409 yX11_numberOf ∈ wAll := wIn 1936 (by decide +kernel) (by decide +kernel)
theorem w_77 : Cond.selects yX11_numberOf.cls yX11_numberOf yX11_numberOf ∈ wAll := wIn 77 (by decide +kernel) (by decide +kernel)
theorem mk_X11_numberOf : mk yX11_numberOf 7 := ⟨by decide +kernel, w_110⟩
theorem w_1938 : Cond.instanceMethod yX11_numberOf ∈ wAll := wIn 1938 (by decide +kernel) (by decide +kernel)
theorem w_1939 : Cond.code yX11_numberOf cX11_numberOf 8 (some .int) ∈ wAll := wIn 1939 (by decide +kernel) (by decide +kernel)
theorem dX11_recurrence_19 : decode cX11_recurrence 19 = .ok (.ireturn, 1) := by decide +kernel
theorem dX11_fails__0 : decode cX11_fails_ 0 = .ok (.aload_n 0, 1) := by decide +kernel
theorem dX11_fails__1 : decode cX11_fails_ 1 = .ok (.iconst 0, 1) := by decide +kernel
theorem dX11_fails__2 : decode cX11_fails_ 2 = .ok (.putfield 75, 3) := by decide +kernel
theorem dX11_fails__5 : decode cX11_fails_ 5 = .ok (.aload_n 0, 1) := by decide +kernel
theorem dX11_fails__6 : decode cX11_fails_ 6 = .ok (.iload_n 1, 1) := by decide +kernel
theorem dX11_fails__7 : decode cX11_fails_ 7 = .ok (.iload_n 2, 1) := by decide +kernel
theorem dX11_fails__8 : decode cX11_fails_ 8 = .ok (.iconst 0, 1) := by decide +kernel
theorem dX11_fails__9 : decode cX11_fails_ 9 = .ok (.iload_n 3, 1) := by decide +kernel
theorem dX11_fails__10 : decode cX11_fails_ 10 = .ok (.iload 4, 2) := by decide +kernel
theorem dX11_fails__12 : decode cX11_fails_ 12 = .ok (.invokevirtual 413, 3) := by decide +kernel
theorem w_1981 : Cond.methodLink "QuarterWalksModel" 413 yX11_failOf ∈ wAll := wIn 1981 (by decide +kernel) (by decide +kernel)
theorem w_86 : Cond.selects yX11_failOf.cls yX11_failOf yX11_failOf ∈ wAll := wIn 86 (by decide +kernel) (by decide +kernel)
theorem mk_X11_failOf : mk yX11_failOf 5 := ⟨by decide +kernel, w_110⟩
theorem w_1983 : Cond.instanceMethod yX11_failOf ∈ wAll := wIn 1983 (by decide +kernel) (by decide +kernel)
theorem w_1984 : Cond.code yX11_failOf cX11_failOf 6 (some .int) ∈ wAll := wIn 1984 (by decide +kernel) (by decide +kernel)
theorem dX11_fails__15 : decode cX11_fails_ 15 = .ok (.ireturn, 1) := by decide +kernel
theorem dX11_equation_0 : decode cX11_equation 0 = .ok (.aload_n 0, 1) := by decide +kernel
theorem dX11_equation_1 : decode cX11_equation 1 = .ok (.iconst 0, 1) := by decide +kernel
theorem dX11_equation_2 : decode cX11_equation 2 = .ok (.putfield 75, 3) := by decide +kernel
theorem dX11_equation_5 : decode cX11_equation 5 = .ok (.aload_n 0, 1) := by decide +kernel
theorem dX11_equation_6 : decode cX11_equation 6 = .ok (.iload_n 1, 1) := by decide +kernel
theorem dX11_equation_7 : decode cX11_equation 7 = .ok (.iload_n 2, 1) := by decide +kernel
theorem dX11_equation_8 : decode cX11_equation 8 = .ok (.iconst 1, 1) := by decide +kernel
theorem dX11_equation_9 : decode cX11_equation 9 = .ok (.iload_n 3, 1) := by decide +kernel
theorem dX11_equation_10 : decode cX11_equation 10 = .ok (.iload 4, 2) := by decide +kernel
theorem dX11_equation_12 : decode cX11_equation 12 = .ok (.iload 5, 2) := by decide +kernel
theorem dX11_equation_14 : decode cX11_equation 14 = .ok (.iload 6, 2) := by decide +kernel
theorem dX11_equation_16 : decode cX11_equation 16 = .ok (.invokevirtual 409, 3) := by decide +kernel
theorem dX11_equation_19 : decode cX11_equation 19 = .ok (.ireturn, 1) := by decide +kernel
theorem dX11_breaks_0 : decode cX11_breaks 0 = .ok (.aload_n 0, 1) := by decide +kernel
theorem dX11_breaks_1 : decode cX11_breaks 1 = .ok (.iconst 0, 1) := by decide +kernel
theorem dX11_breaks_2 : decode cX11_breaks 2 = .ok (.putfield 75, 3) := by decide +kernel
theorem dX11_breaks_5 : decode cX11_breaks 5 = .ok (.aload_n 0, 1) := by decide +kernel
theorem dX11_breaks_6 : decode cX11_breaks 6 = .ok (.iload_n 1, 1) := by decide +kernel
theorem dX11_breaks_7 : decode cX11_breaks 7 = .ok (.iload_n 2, 1) := by decide +kernel
theorem dX11_breaks_8 : decode cX11_breaks 8 = .ok (.iconst 1, 1) := by decide +kernel
theorem dX11_breaks_9 : decode cX11_breaks 9 = .ok (.iload_n 3, 1) := by decide +kernel
theorem dX11_breaks_10 : decode cX11_breaks 10 = .ok (.iload 4, 2) := by decide +kernel
theorem dX11_breaks_12 : decode cX11_breaks 12 = .ok (.invokevirtual 413, 3) := by decide +kernel
theorem dX11_breaks_15 : decode cX11_breaks 15 = .ok (.ireturn, 1) := by decide +kernel
theorem dX11_least_0 : decode cX11_least 0 = .ok (.aload_n 0, 1) := by decide +kernel
theorem dX11_least_1 : decode cX11_least 1 = .ok (.iconst 0, 1) := by decide +kernel
theorem dX11_least_2 : decode cX11_least 2 = .ok (.putfield 75, 3) := by decide +kernel
theorem dX11_least_5 : decode cX11_least 5 = .ok (.aload_n 0, 1) := by decide +kernel
theorem dX11_least_6 : decode cX11_least 6 = .ok (.iload_n 1, 1) := by decide +kernel
theorem dX11_least_7 : decode cX11_least 7 = .ok (.invokevirtual 171, 3) := by decide +kernel
theorem dX11_least_10 : decode cX11_least 10 = .ok (.ifCond .eq 25, 3) := by decide +kernel
theorem dX11_least_35 : decode cX11_least 35 = .ok (.ldc_w 286, 3) := by decide +kernel
theorem dX11_least_38 : decode cX11_least 38 = .ok (.ireturn, 1) := by decide +kernel
theorem dX11_written_0 : decode cX11_written 0 = .ok (.aload_n 0, 1) := by decide +kernel
theorem dX11_written_1 : decode cX11_written 1 = .ok (.iconst 0, 1) := by decide +kernel
theorem dX11_written_2 : decode cX11_written 2 = .ok (.putfield 75, 3) := by decide +kernel
theorem dX11_written_5 : decode cX11_written 5 = .ok (.aload_n 0, 1) := by decide +kernel
theorem dX11_written_6 : decode cX11_written 6 = .ok (.iload_n 1, 1) := by decide +kernel
theorem dX11_written_7 : decode cX11_written 7 = .ok (.invokevirtual 171, 3) := by decide +kernel
theorem dX11_written_10 : decode cX11_written 10 = .ok (.ifCond .ne 5, 3) := by decide +kernel
theorem dX11_written_13 : decode cX11_written 13 = .ok (.iconst (-1), 1) := by decide +kernel
theorem dX11_written_14 : decode cX11_written 14 = .ok (.ireturn, 1) := by decide +kernel
set_option maxRecDepth 100000 in
set_option maxHeartbeats 4000000 in
theorem c_X11_isGuess (l : Launch) (D : va_G) (G : Nat → Nat) (b0 : Nat) (f : hM) (M : Nat → Nat) (hM : mw G f M) (p0 : Int32) (p1 : Int32) (p2 : Int32) (p3 : Int32) (p4 : Int32) : mI l yX11_isGuess cX11_isGuess 6 (.boolean) { frames := 2, cells := 0, slots := 0, locals := 46 } D G b0 f [.ref (M 0), .int p0, .int p1, .int p2, .int p3, .int p4] (fun r f1 => (0 : Int32) = r ∧ f = f1) := by
  refine met_of (own := RX11) (by decide) rfl (Nat.le_of_ble_eq_true rfl) ?_
  intro p e s m below meth c ls C hr hini hl h
  have hl : lv_has ls 6 [(0, .ref (M 0)), (1, .int p0), (2, .int p1), (3, .int p2), (4, .int p3), (5, .int p4)] := hl
  obtain ⟨hx, hb, hml, hown, hts, hE0, hlk⟩ := id C
  obtain ⟨km0, km1, km2, km3, km4, km5⟩ := hM
  refine lv_aload_n hx hb dX11_isGuess_0 rfl (lv_at hl 0 rfl) ?_
  refine lv_iload_n hx hb dX11_isGuess_1 rfl (lv_at hl 1 rfl) ?_
  refine k_i (r_V C h hl (As := [.int p0]) (rest := []) (c_X11_isSet l D G b0 f M ⟨km0, km1, km2, km3, km4, km5⟩ p0) km0 (Cn := RX11) (T := TX11) (N := 32) rfl rfl mk_X11_isSet w_1624 w_1626 w_51 w_1627 ⟨Nat.le_of_ble_eq_true rfl, Nat.le_of_ble_eq_true rfl⟩ rfl (Nat.le_of_ble_eq_true rfl) ⟨Nat.le_of_ble_eq_true rfl, Nat.le_of_ble_eq_true rfl⟩ rfl dX11_isGuess_2) h (fun r_194 f_195 H locs p_196 h => ?_)
  obtain ⟨e_, rfl⟩ := p_196
  subst e_
  refine lv_if_eq (tgt := 70) hx hb dX11_isGuess_5 (by decide) (fun c_197 => ?_) (fun c_197 => ?_)
  · refine lv_iconst (v := 0) hx hb dX11_isGuess_70 (by decide) ?_
    exact q_zret C h hr (Or.inl rfl) (⟨rfl, rfl⟩) (Nat.le_of_ble_eq_true rfl) (Nat.le_of_ble_eq_true rfl) dX11_isGuess_71
  · exact absurd c_197 (by decide)
set_option maxRecDepth 100000 in
set_option maxHeartbeats 4000000 in
theorem c_X11_numberOf (l : Launch) (D : va_G) (G : Nat → Nat) (b0 : Nat) (f : hM) (M : Nat → Nat) (hM : mw G f M) (p0 : Int32) (p1 : Int32) (p2 : Int32) (p3 : Int32) (p4 : Int32) (p5 : Int32) (p6 : Int32) : mI l yX11_numberOf cX11_numberOf 8 (.int) { frames := 3, cells := 0, slots := 0, locals := 71 } D G b0 f [.ref (M 0), .int p0, .int p1, .int p2, .int p3, .int p4, .int p5, .int p6] (fun r f1 => (-1000000 : Int32) = r) := by
  refine met_of (own := RX11) (by decide) rfl (Nat.le_of_ble_eq_true rfl) ?_
  intro p e s m below meth c ls C hr hini hl h
  have hl : lv_has ls 8 [(0, .ref (M 0)), (1, .int p0), (2, .int p1), (3, .int p2), (4, .int p3), (5, .int p4), (6, .int p5), (7, .int p6)] := hl
  obtain ⟨hx, hb, hml, hown, hts, hE0, hlk⟩ := id C
  obtain ⟨km0, km1, km2, km3, km4, km5⟩ := hM
  refine lv_aload_n hx hb dX11_numberOf_0 rfl (lv_at hl 0 rfl) ?_
  refine lv_iload_n hx hb dX11_numberOf_1 rfl (lv_at hl 1 rfl) ?_
  refine lv_iload_n hx hb dX11_numberOf_2 rfl (lv_at hl 2 rfl) ?_
  refine lv_iload_n hx hb dX11_numberOf_3 rfl (lv_at hl 3 rfl) ?_
  refine lv_iload hx hb dX11_numberOf_4 (lv_at hl 4 rfl) ?_
  refine lv_iload hx hb dX11_numberOf_6 (lv_at hl 5 rfl) ?_
  refine k_i (r_V C h hl (As := [.int p0, .int p1, .int p2, .int p3, .int p4]) (rest := []) (c_X11_isGuess l D G b0 f M ⟨km0, km1, km2, km3, km4, km5⟩ p0 p1 p2 p3 p4) km0 (Cn := RX11) (T := TX11) (N := 32) rfl rfl mk_X11_isGuess w_1940 w_1942 w_78 w_1943 ⟨Nat.le_of_ble_eq_true rfl, Nat.le_of_ble_eq_true rfl⟩ rfl (Nat.le_of_ble_eq_true rfl) ⟨Nat.le_of_ble_eq_true rfl, Nat.le_of_ble_eq_true rfl⟩ rfl dX11_numberOf_8) h (fun r_198 f_199 H locs p_200 h => ?_)
  obtain ⟨e_, rfl⟩ := p_200
  subst e_
  refine lv_if_eq (tgt := 40) hx hb dX11_numberOf_11 (by decide) (fun c_201 => ?_) (fun c_201 => ?_)
  · refine lv_ldcw (v := -1000000) hx hb hown (hts _ w_1791) dX11_numberOf_40 ?_
    exact q_iret C h hr (rfl) (Nat.le_of_ble_eq_true rfl) (Nat.le_of_ble_eq_true rfl) dX11_numberOf_43
  · exact absurd c_201 (by decide)
set_option maxRecDepth 100000 in
set_option maxHeartbeats 4000000 in
theorem c_X11_failOf (l : Launch) (D : va_G) (G : Nat → Nat) (b0 : Nat) (f : hM) (M : Nat → Nat) (hM : mw G f M) (p0 : Int32) (p1 : Int32) (p2 : Int32) (p3 : Int32) (p4 : Int32) : mI l yX11_failOf cX11_failOf 6 (.int) { frames := 3, cells := 0, slots := 0, locals := 71 } D G b0 f [.ref (M 0), .int p0, .int p1, .int p2, .int p3, .int p4] (fun r f1 => (-1000000 : Int32) = r) := by
  refine met_of (own := RX11) (by decide) rfl (Nat.le_of_ble_eq_true rfl) ?_
  intro p e s m below meth c ls C hr hini hl h
  have hl : lv_has ls 6 [(0, .ref (M 0)), (1, .int p0), (2, .int p1), (3, .int p2), (4, .int p3), (5, .int p4)] := hl
  obtain ⟨hx, hb, hml, hown, hts, hE0, hlk⟩ := id C
  obtain ⟨km0, km1, km2, km3, km4, km5⟩ := hM
  refine lv_aload_n hx hb dX11_failOf_0 rfl (lv_at hl 0 rfl) ?_
  refine lv_iload_n hx hb dX11_failOf_1 rfl (lv_at hl 1 rfl) ?_
  refine lv_iload_n hx hb dX11_failOf_2 rfl (lv_at hl 2 rfl) ?_
  refine lv_iload_n hx hb dX11_failOf_3 rfl (lv_at hl 3 rfl) ?_
  refine lv_iload hx hb dX11_failOf_4 (lv_at hl 4 rfl) ?_
  refine lv_iload hx hb dX11_failOf_6 (lv_at hl 5 rfl) ?_
  refine k_i (r_V C h hl (As := [.int p0, .int p1, .int p2, .int p3, .int p4]) (rest := []) (c_X11_isGuess l D G b0 f M ⟨km0, km1, km2, km3, km4, km5⟩ p0 p1 p2 p3 p4) km0 (Cn := RX11) (T := TX11) (N := 32) rfl rfl mk_X11_isGuess w_1940 w_1942 w_78 w_1943 ⟨Nat.le_of_ble_eq_true rfl, Nat.le_of_ble_eq_true rfl⟩ rfl (Nat.le_of_ble_eq_true rfl) ⟨Nat.le_of_ble_eq_true rfl, Nat.le_of_ble_eq_true rfl⟩ rfl dX11_failOf_8) h (fun r_202 f_203 H locs p_204 h => ?_)
  obtain ⟨e_, rfl⟩ := p_204
  subst e_
  refine lv_if_ne (tgt := 18) hx hb dX11_failOf_11 (by decide) (fun c_205 => ?_) (fun c_205 => ?_)
  · exact absurd c_205 (by decide)
  · refine lv_ldcw (v := -1000000) hx hb hown (hts _ w_1791) dX11_failOf_14 ?_
    exact q_iret C h hr (rfl) (Nat.le_of_ble_eq_true rfl) (Nat.le_of_ble_eq_true rfl) dX11_failOf_17
set_option maxRecDepth 100000 in
set_option maxHeartbeats 4000000 in
theorem c_X11_drop (l : Launch) (D : va_G) (G : Nat → Nat) (b0 : Nat) (f : hM) (M : Nat → Nat) (hM : mw G f M) (p0 : Int32) : mI l yX11_drop cX11_drop 3 (.int) { frames := 2, cells := 0, slots := 0, locals := 46 } D G b0 f [.ref (M 0), .int p0] (fun r f1 => (-1 : Int32) = r) := by
  refine met_of (own := RX11) (by decide) rfl (Nat.le_of_ble_eq_true rfl) ?_
  intro p e s m below meth c ls C hr hini hl h
  have hl : lv_has ls 3 [(0, .ref (M 0)), (1, .int p0)] := hl
  obtain ⟨hx, hb, hml, hown, hts, hE0, hlk⟩ := id C
  obtain ⟨km0, km1, km2, km3, km4, km5⟩ := hM
  refine lv_aload_n hx hb dX11_drop_0 rfl (lv_at hl 0 rfl) ?_
  refine lv_iconst (v := 0) hx hb dX11_drop_1 (by decide) ?_
  refine q_put C h km0 flw_X11_75 (Or.inr ⟨_, _, _, rfl, rfl⟩) (v := .int 0) rfl rfl (Nat.le_of_ble_eq_true rfl) dX11_drop_2 (fun H locs h => ?_)
  have h : hw D b0 s.heap (hu f (M 0) (.inr (12, [.int 0, .ref (M 1), .int 0, .int 0, .int 0, .ref (M 2), .ref (M 3), .ref (M 4), .ref (M 5), .ref (M 6), .int 0, .int 0, .ref (M 7), .ref (M 8), .int 0, .ref (M 9), .ref (M 10), .ref (M 11), .long 0, .ref (M 12), .ref (M 13), .ref (M 14), .ref (M 15), .ref (M 16), .ref (M 17), .ref (M 18), .ref (M 19), .int 0, .int 0, .ref (M 20), .ref (M 21), .int 0]))) H locs := h
  rw [hu_id km0] at h
  refine lv_aload_n hx hb dX11_drop_5 rfl (lv_at hl 0 rfl) ?_
  refine lv_iload_n hx hb dX11_drop_6 rfl (lv_at hl 1 rfl) ?_
  refine k_i (r_V C h hl (As := [.int p0]) (rest := []) (c_X11_isSet l D G b0 f M ⟨km0, km1, km2, km3, km4, km5⟩ p0) km0 (Cn := RX11) (T := TX11) (N := 32) rfl rfl mk_X11_isSet w_1624 w_1626 w_51 w_1627 ⟨Nat.le_of_ble_eq_true rfl, Nat.le_of_ble_eq_true rfl⟩ rfl (Nat.le_of_ble_eq_true rfl) ⟨Nat.le_of_ble_eq_true rfl, Nat.le_of_ble_eq_true rfl⟩ rfl dX11_drop_7) h (fun r_206 f_207 H locs p_208 h => ?_)
  obtain ⟨e_, rfl⟩ := p_208
  subst e_
  refine lv_if_ne (tgt := 19) hx hb dX11_drop_10 (by decide) (fun c_209 => ?_) (fun c_209 => ?_)
  · exact absurd c_209 (by decide)
  · refine lv_aload_n hx hb dX11_drop_13 rfl (lv_at hl 0 rfl) ?_
    refine lv_iconst (v := 0) hx hb dX11_drop_14 (by decide) ?_
    refine k_i (r_V C h hl (As := [.int 0]) (rest := []) (c_X11_refuse l D G b0 f M ⟨km0, km1, km2, km3, km4, km5⟩ ) km0 (Cn := RX11) (T := TX11) (N := 32) rfl rfl mk_X11_refuse w_1608 w_1610 w_48 w_1611 ⟨Nat.le_of_ble_eq_true rfl, Nat.le_of_ble_eq_true rfl⟩ rfl (Nat.le_of_ble_eq_true rfl) ⟨Nat.le_of_ble_eq_true rfl, Nat.le_of_ble_eq_true rfl⟩ rfl dX11_drop_15) h (fun r_210 f_211 H locs p_212 h => ?_)
    subst p_212
    exact q_iret C h hr (rfl) (Nat.le_of_ble_eq_true rfl) (Nat.le_of_ble_eq_true rfl) dX11_drop_18
set_option maxRecDepth 100000 in
set_option maxHeartbeats 4000000 in
theorem c_X11_mirror (l : Launch) (D : va_G) (G : Nat → Nat) (b0 : Nat) (f : hM) (M : Nat → Nat) (hM : mw G f M) (p0 : Int32) : mI l yX11_mirror cX11_mirror 3 (.int) { frames := 2, cells := 0, slots := 0, locals := 46 } D G b0 f [.ref (M 0), .int p0] (fun r f1 => (-1 : Int32) = r) := by
  refine met_of (own := RX11) (by decide) rfl (Nat.le_of_ble_eq_true rfl) ?_
  intro p e s m below meth c ls C hr hini hl h
  have hl : lv_has ls 3 [(0, .ref (M 0)), (1, .int p0)] := hl
  obtain ⟨hx, hb, hml, hown, hts, hE0, hlk⟩ := id C
  obtain ⟨km0, km1, km2, km3, km4, km5⟩ := hM
  refine lv_aload_n hx hb dX11_mirror_0 rfl (lv_at hl 0 rfl) ?_
  refine lv_iconst (v := 0) hx hb dX11_mirror_1 (by decide) ?_
  refine q_put C h km0 flw_X11_75 (Or.inr ⟨_, _, _, rfl, rfl⟩) (v := .int 0) rfl rfl (Nat.le_of_ble_eq_true rfl) dX11_mirror_2 (fun H locs h => ?_)
  have h : hw D b0 s.heap (hu f (M 0) (.inr (12, [.int 0, .ref (M 1), .int 0, .int 0, .int 0, .ref (M 2), .ref (M 3), .ref (M 4), .ref (M 5), .ref (M 6), .int 0, .int 0, .ref (M 7), .ref (M 8), .int 0, .ref (M 9), .ref (M 10), .ref (M 11), .long 0, .ref (M 12), .ref (M 13), .ref (M 14), .ref (M 15), .ref (M 16), .ref (M 17), .ref (M 18), .ref (M 19), .int 0, .int 0, .ref (M 20), .ref (M 21), .int 0]))) H locs := h
  rw [hu_id km0] at h
  refine lv_aload_n hx hb dX11_mirror_5 rfl (lv_at hl 0 rfl) ?_
  refine lv_iload_n hx hb dX11_mirror_6 rfl (lv_at hl 1 rfl) ?_
  refine k_i (r_V C h hl (As := [.int p0]) (rest := []) (c_X11_isSet l D G b0 f M ⟨km0, km1, km2, km3, km4, km5⟩ p0) km0 (Cn := RX11) (T := TX11) (N := 32) rfl rfl mk_X11_isSet w_1624 w_1626 w_51 w_1627 ⟨Nat.le_of_ble_eq_true rfl, Nat.le_of_ble_eq_true rfl⟩ rfl (Nat.le_of_ble_eq_true rfl) ⟨Nat.le_of_ble_eq_true rfl, Nat.le_of_ble_eq_true rfl⟩ rfl dX11_mirror_7) h (fun r_213 f_214 H locs p_215 h => ?_)
  obtain ⟨e_, rfl⟩ := p_215
  subst e_
  refine lv_if_ne (tgt := 19) hx hb dX11_mirror_10 (by decide) (fun c_216 => ?_) (fun c_216 => ?_)
  · exact absurd c_216 (by decide)
  · refine lv_aload_n hx hb dX11_mirror_13 rfl (lv_at hl 0 rfl) ?_
    refine lv_iconst (v := 0) hx hb dX11_mirror_14 (by decide) ?_
    refine k_i (r_V C h hl (As := [.int 0]) (rest := []) (c_X11_refuse l D G b0 f M ⟨km0, km1, km2, km3, km4, km5⟩ ) km0 (Cn := RX11) (T := TX11) (N := 32) rfl rfl mk_X11_refuse w_1608 w_1610 w_48 w_1611 ⟨Nat.le_of_ble_eq_true rfl, Nat.le_of_ble_eq_true rfl⟩ rfl (Nat.le_of_ble_eq_true rfl) ⟨Nat.le_of_ble_eq_true rfl, Nat.le_of_ble_eq_true rfl⟩ rfl dX11_mirror_15) h (fun r_217 f_218 H locs p_219 h => ?_)
    subst p_219
    exact q_iret C h hr (rfl) (Nat.le_of_ble_eq_true rfl) (Nat.le_of_ble_eq_true rfl) dX11_mirror_18
set_option maxRecDepth 100000 in
set_option maxHeartbeats 4000000 in
theorem c_X11_turn (l : Launch) (D : va_G) (G : Nat → Nat) (b0 : Nat) (f : hM) (M : Nat → Nat) (hM : mw G f M) (p0 : Int32) : mI l yX11_turn cX11_turn 3 (.int) { frames := 2, cells := 0, slots := 0, locals := 46 } D G b0 f [.ref (M 0), .int p0] (fun r f1 => (-1 : Int32) = r) := by
  refine met_of (own := RX11) (by decide) rfl (Nat.le_of_ble_eq_true rfl) ?_
  intro p e s m below meth c ls C hr hini hl h
  have hl : lv_has ls 3 [(0, .ref (M 0)), (1, .int p0)] := hl
  obtain ⟨hx, hb, hml, hown, hts, hE0, hlk⟩ := id C
  obtain ⟨km0, km1, km2, km3, km4, km5⟩ := hM
  refine lv_aload_n hx hb dX11_turn_0 rfl (lv_at hl 0 rfl) ?_
  refine lv_iconst (v := 0) hx hb dX11_turn_1 (by decide) ?_
  refine q_put C h km0 flw_X11_75 (Or.inr ⟨_, _, _, rfl, rfl⟩) (v := .int 0) rfl rfl (Nat.le_of_ble_eq_true rfl) dX11_turn_2 (fun H locs h => ?_)
  have h : hw D b0 s.heap (hu f (M 0) (.inr (12, [.int 0, .ref (M 1), .int 0, .int 0, .int 0, .ref (M 2), .ref (M 3), .ref (M 4), .ref (M 5), .ref (M 6), .int 0, .int 0, .ref (M 7), .ref (M 8), .int 0, .ref (M 9), .ref (M 10), .ref (M 11), .long 0, .ref (M 12), .ref (M 13), .ref (M 14), .ref (M 15), .ref (M 16), .ref (M 17), .ref (M 18), .ref (M 19), .int 0, .int 0, .ref (M 20), .ref (M 21), .int 0]))) H locs := h
  rw [hu_id km0] at h
  refine lv_aload_n hx hb dX11_turn_5 rfl (lv_at hl 0 rfl) ?_
  refine lv_iload_n hx hb dX11_turn_6 rfl (lv_at hl 1 rfl) ?_
  refine k_i (r_V C h hl (As := [.int p0]) (rest := []) (c_X11_isSet l D G b0 f M ⟨km0, km1, km2, km3, km4, km5⟩ p0) km0 (Cn := RX11) (T := TX11) (N := 32) rfl rfl mk_X11_isSet w_1624 w_1626 w_51 w_1627 ⟨Nat.le_of_ble_eq_true rfl, Nat.le_of_ble_eq_true rfl⟩ rfl (Nat.le_of_ble_eq_true rfl) ⟨Nat.le_of_ble_eq_true rfl, Nat.le_of_ble_eq_true rfl⟩ rfl dX11_turn_7) h (fun r_220 f_221 H locs p_222 h => ?_)
  obtain ⟨e_, rfl⟩ := p_222
  subst e_
  refine lv_if_ne (tgt := 19) hx hb dX11_turn_10 (by decide) (fun c_223 => ?_) (fun c_223 => ?_)
  · exact absurd c_223 (by decide)
  · refine lv_aload_n hx hb dX11_turn_13 rfl (lv_at hl 0 rfl) ?_
    refine lv_iconst (v := 0) hx hb dX11_turn_14 (by decide) ?_
    refine k_i (r_V C h hl (As := [.int 0]) (rest := []) (c_X11_refuse l D G b0 f M ⟨km0, km1, km2, km3, km4, km5⟩ ) km0 (Cn := RX11) (T := TX11) (N := 32) rfl rfl mk_X11_refuse w_1608 w_1610 w_48 w_1611 ⟨Nat.le_of_ble_eq_true rfl, Nat.le_of_ble_eq_true rfl⟩ rfl (Nat.le_of_ble_eq_true rfl) ⟨Nat.le_of_ble_eq_true rfl, Nat.le_of_ble_eq_true rfl⟩ rfl dX11_turn_15) h (fun r_224 f_225 H locs p_226 h => ?_)
    subst p_226
    exact q_iret C h hr (rfl) (Nat.le_of_ble_eq_true rfl) (Nat.le_of_ble_eq_true rfl) dX11_turn_18
set_option maxRecDepth 100000 in
set_option maxHeartbeats 4000000 in
theorem c_X11_join (l : Launch) (D : va_G) (G : Nat → Nat) (b0 : Nat) (f : hM) (M : Nat → Nat) (hM : mw G f M) (p0 : Int32) (p1 : Int32) : mI l yX11_join cX11_join 4 (.int) { frames := 2, cells := 0, slots := 0, locals := 46 } D G b0 f [.ref (M 0), .int p0, .int p1] (fun r f1 => (-1 : Int32) = r) := by
  refine met_of (own := RX11) (by decide) rfl (Nat.le_of_ble_eq_true rfl) ?_
  intro p e s m below meth c ls C hr hini hl h
  have hl : lv_has ls 4 [(0, .ref (M 0)), (1, .int p0), (2, .int p1)] := hl
  obtain ⟨hx, hb, hml, hown, hts, hE0, hlk⟩ := id C
  obtain ⟨km0, km1, km2, km3, km4, km5⟩ := hM
  refine lv_aload_n hx hb dX11_join_0 rfl (lv_at hl 0 rfl) ?_
  refine lv_iconst (v := 0) hx hb dX11_join_1 (by decide) ?_
  refine q_put C h km0 flw_X11_75 (Or.inr ⟨_, _, _, rfl, rfl⟩) (v := .int 0) rfl rfl (Nat.le_of_ble_eq_true rfl) dX11_join_2 (fun H locs h => ?_)
  have h : hw D b0 s.heap (hu f (M 0) (.inr (12, [.int 0, .ref (M 1), .int 0, .int 0, .int 0, .ref (M 2), .ref (M 3), .ref (M 4), .ref (M 5), .ref (M 6), .int 0, .int 0, .ref (M 7), .ref (M 8), .int 0, .ref (M 9), .ref (M 10), .ref (M 11), .long 0, .ref (M 12), .ref (M 13), .ref (M 14), .ref (M 15), .ref (M 16), .ref (M 17), .ref (M 18), .ref (M 19), .int 0, .int 0, .ref (M 20), .ref (M 21), .int 0]))) H locs := h
  rw [hu_id km0] at h
  refine lv_aload_n hx hb dX11_join_5 rfl (lv_at hl 0 rfl) ?_
  refine lv_iload_n hx hb dX11_join_6 rfl (lv_at hl 1 rfl) ?_
  refine k_i (r_V C h hl (As := [.int p0]) (rest := []) (c_X11_isSet l D G b0 f M ⟨km0, km1, km2, km3, km4, km5⟩ p0) km0 (Cn := RX11) (T := TX11) (N := 32) rfl rfl mk_X11_isSet w_1624 w_1626 w_51 w_1627 ⟨Nat.le_of_ble_eq_true rfl, Nat.le_of_ble_eq_true rfl⟩ rfl (Nat.le_of_ble_eq_true rfl) ⟨Nat.le_of_ble_eq_true rfl, Nat.le_of_ble_eq_true rfl⟩ rfl dX11_join_7) h (fun r_227 f_228 H locs p_229 h => ?_)
  obtain ⟨e_, rfl⟩ := p_229
  subst e_
  refine lv_if_eq (tgt := 21) hx hb dX11_join_10 (by decide) (fun c_230 => ?_) (fun c_230 => ?_)
  · refine lv_aload_n hx hb dX11_join_21 rfl (lv_at hl 0 rfl) ?_
    refine lv_iconst (v := 0) hx hb dX11_join_22 (by decide) ?_
    refine k_i (r_V C h hl (As := [.int 0]) (rest := []) (c_X11_refuse l D G b0 f M ⟨km0, km1, km2, km3, km4, km5⟩ ) km0 (Cn := RX11) (T := TX11) (N := 32) rfl rfl mk_X11_refuse w_1608 w_1610 w_48 w_1611 ⟨Nat.le_of_ble_eq_true rfl, Nat.le_of_ble_eq_true rfl⟩ rfl (Nat.le_of_ble_eq_true rfl) ⟨Nat.le_of_ble_eq_true rfl, Nat.le_of_ble_eq_true rfl⟩ rfl dX11_join_23) h (fun r_231 f_232 H locs p_233 h => ?_)
    subst p_233
    exact q_iret C h hr (rfl) (Nat.le_of_ble_eq_true rfl) (Nat.le_of_ble_eq_true rfl) dX11_join_26
  · exact absurd c_230 (by decide)
set_option maxRecDepth 100000 in
set_option maxHeartbeats 4000000 in
theorem c_X11_scale (l : Launch) (D : va_G) (G : Nat → Nat) (b0 : Nat) (f : hM) (M : Nat → Nat) (hM : mw G f M) (p0 : Int32) (p1 : Int32) : mI l yX11_scale cX11_scale 4 (.int) { frames := 2, cells := 0, slots := 0, locals := 46 } D G b0 f [.ref (M 0), .int p0, .int p1] (fun r f1 => (-1 : Int32) = r) := by
  refine met_of (own := RX11) (by decide) rfl (Nat.le_of_ble_eq_true rfl) ?_
  intro p e s m below meth c ls C hr hini hl h
  have hl : lv_has ls 4 [(0, .ref (M 0)), (1, .int p0), (2, .int p1)] := hl
  obtain ⟨hx, hb, hml, hown, hts, hE0, hlk⟩ := id C
  obtain ⟨km0, km1, km2, km3, km4, km5⟩ := hM
  refine lv_aload_n hx hb dX11_scale_0 rfl (lv_at hl 0 rfl) ?_
  refine lv_iconst (v := 0) hx hb dX11_scale_1 (by decide) ?_
  refine q_put C h km0 flw_X11_75 (Or.inr ⟨_, _, _, rfl, rfl⟩) (v := .int 0) rfl rfl (Nat.le_of_ble_eq_true rfl) dX11_scale_2 (fun H locs h => ?_)
  have h : hw D b0 s.heap (hu f (M 0) (.inr (12, [.int 0, .ref (M 1), .int 0, .int 0, .int 0, .ref (M 2), .ref (M 3), .ref (M 4), .ref (M 5), .ref (M 6), .int 0, .int 0, .ref (M 7), .ref (M 8), .int 0, .ref (M 9), .ref (M 10), .ref (M 11), .long 0, .ref (M 12), .ref (M 13), .ref (M 14), .ref (M 15), .ref (M 16), .ref (M 17), .ref (M 18), .ref (M 19), .int 0, .int 0, .ref (M 20), .ref (M 21), .int 0]))) H locs := h
  rw [hu_id km0] at h
  refine lv_aload_n hx hb dX11_scale_5 rfl (lv_at hl 0 rfl) ?_
  refine lv_iload_n hx hb dX11_scale_6 rfl (lv_at hl 1 rfl) ?_
  refine k_i (r_V C h hl (As := [.int p0]) (rest := []) (c_X11_isSet l D G b0 f M ⟨km0, km1, km2, km3, km4, km5⟩ p0) km0 (Cn := RX11) (T := TX11) (N := 32) rfl rfl mk_X11_isSet w_1624 w_1626 w_51 w_1627 ⟨Nat.le_of_ble_eq_true rfl, Nat.le_of_ble_eq_true rfl⟩ rfl (Nat.le_of_ble_eq_true rfl) ⟨Nat.le_of_ble_eq_true rfl, Nat.le_of_ble_eq_true rfl⟩ rfl dX11_scale_7) h (fun r_234 f_235 H locs p_236 h => ?_)
  obtain ⟨e_, rfl⟩ := p_236
  subst e_
  refine lv_if_ne (tgt := 19) hx hb dX11_scale_10 (by decide) (fun c_237 => ?_) (fun c_237 => ?_)
  · exact absurd c_237 (by decide)
  · refine lv_aload_n hx hb dX11_scale_13 rfl (lv_at hl 0 rfl) ?_
    refine lv_iconst (v := 0) hx hb dX11_scale_14 (by decide) ?_
    refine k_i (r_V C h hl (As := [.int 0]) (rest := []) (c_X11_refuse l D G b0 f M ⟨km0, km1, km2, km3, km4, km5⟩ ) km0 (Cn := RX11) (T := TX11) (N := 32) rfl rfl mk_X11_refuse w_1608 w_1610 w_48 w_1611 ⟨Nat.le_of_ble_eq_true rfl, Nat.le_of_ble_eq_true rfl⟩ rfl (Nat.le_of_ble_eq_true rfl) ⟨Nat.le_of_ble_eq_true rfl, Nat.le_of_ble_eq_true rfl⟩ rfl dX11_scale_15) h (fun r_238 f_239 H locs p_240 h => ?_)
    subst p_240
    exact q_iret C h hr (rfl) (Nat.le_of_ble_eq_true rfl) (Nat.le_of_ble_eq_true rfl) dX11_scale_18
set_option maxRecDepth 100000 in
set_option maxHeartbeats 4000000 in
theorem c_X11_weigh (l : Launch) (D : va_G) (G : Nat → Nat) (b0 : Nat) (f : hM) (M : Nat → Nat) (hM : mw G f M) (p0 : Int32) (p1 : Int32) (p2 : Int32) : mI l yX11_weigh cX11_weigh 5 (.int) { frames := 2, cells := 0, slots := 0, locals := 46 } D G b0 f [.ref (M 0), .int p0, .int p1, .int p2] (fun r f1 => (-1 : Int32) = r) := by
  refine met_of (own := RX11) (by decide) rfl (Nat.le_of_ble_eq_true rfl) ?_
  intro p e s m below meth c ls C hr hini hl h
  have hl : lv_has ls 5 [(0, .ref (M 0)), (1, .int p0), (2, .int p1), (3, .int p2)] := hl
  obtain ⟨hx, hb, hml, hown, hts, hE0, hlk⟩ := id C
  obtain ⟨km0, km1, km2, km3, km4, km5⟩ := hM
  refine lv_aload_n hx hb dX11_weigh_0 rfl (lv_at hl 0 rfl) ?_
  refine lv_iconst (v := 0) hx hb dX11_weigh_1 (by decide) ?_
  refine q_put C h km0 flw_X11_75 (Or.inr ⟨_, _, _, rfl, rfl⟩) (v := .int 0) rfl rfl (Nat.le_of_ble_eq_true rfl) dX11_weigh_2 (fun H locs h => ?_)
  have h : hw D b0 s.heap (hu f (M 0) (.inr (12, [.int 0, .ref (M 1), .int 0, .int 0, .int 0, .ref (M 2), .ref (M 3), .ref (M 4), .ref (M 5), .ref (M 6), .int 0, .int 0, .ref (M 7), .ref (M 8), .int 0, .ref (M 9), .ref (M 10), .ref (M 11), .long 0, .ref (M 12), .ref (M 13), .ref (M 14), .ref (M 15), .ref (M 16), .ref (M 17), .ref (M 18), .ref (M 19), .int 0, .int 0, .ref (M 20), .ref (M 21), .int 0]))) H locs := h
  rw [hu_id km0] at h
  refine lv_aload_n hx hb dX11_weigh_5 rfl (lv_at hl 0 rfl) ?_
  refine lv_iload_n hx hb dX11_weigh_6 rfl (lv_at hl 1 rfl) ?_
  refine k_i (r_V C h hl (As := [.int p0]) (rest := []) (c_X11_isSet l D G b0 f M ⟨km0, km1, km2, km3, km4, km5⟩ p0) km0 (Cn := RX11) (T := TX11) (N := 32) rfl rfl mk_X11_isSet w_1624 w_1626 w_51 w_1627 ⟨Nat.le_of_ble_eq_true rfl, Nat.le_of_ble_eq_true rfl⟩ rfl (Nat.le_of_ble_eq_true rfl) ⟨Nat.le_of_ble_eq_true rfl, Nat.le_of_ble_eq_true rfl⟩ rfl dX11_weigh_7) h (fun r_241 f_242 H locs p_243 h => ?_)
  obtain ⟨e_, rfl⟩ := p_243
  subst e_
  refine lv_if_ne (tgt := 19) hx hb dX11_weigh_10 (by decide) (fun c_244 => ?_) (fun c_244 => ?_)
  · exact absurd c_244 (by decide)
  · refine lv_aload_n hx hb dX11_weigh_13 rfl (lv_at hl 0 rfl) ?_
    refine lv_iconst (v := 0) hx hb dX11_weigh_14 (by decide) ?_
    refine k_i (r_V C h hl (As := [.int 0]) (rest := []) (c_X11_refuse l D G b0 f M ⟨km0, km1, km2, km3, km4, km5⟩ ) km0 (Cn := RX11) (T := TX11) (N := 32) rfl rfl mk_X11_refuse w_1608 w_1610 w_48 w_1611 ⟨Nat.le_of_ble_eq_true rfl, Nat.le_of_ble_eq_true rfl⟩ rfl (Nat.le_of_ble_eq_true rfl) ⟨Nat.le_of_ble_eq_true rfl, Nat.le_of_ble_eq_true rfl⟩ rfl dX11_weigh_15) h (fun r_245 f_246 H locs p_247 h => ?_)
    subst p_247
    exact q_iret C h hr (rfl) (Nat.le_of_ble_eq_true rfl) (Nat.le_of_ble_eq_true rfl) dX11_weigh_18
set_option maxRecDepth 100000 in
set_option maxHeartbeats 4000000 in
theorem c_X11_start (l : Launch) (D : va_G) (G : Nat → Nat) (b0 : Nat) (f : hM) (M : Nat → Nat) (hM : mw G f M) (p0 : Int32) (p1 : Int32) (p2 : Int32) : mI l yX11_start cX11_start 5 (.int) { frames := 2, cells := 0, slots := 0, locals := 46 } D G b0 f [.ref (M 0), .int p0, .int p1, .int p2] (fun r f1 => (-1 : Int32) = r) := by
  refine met_of (own := RX11) (by decide) rfl (Nat.le_of_ble_eq_true rfl) ?_
  intro p e s m below meth c ls C hr hini hl h
  have hl : lv_has ls 5 [(0, .ref (M 0)), (1, .int p0), (2, .int p1), (3, .int p2)] := hl
  obtain ⟨hx, hb, hml, hown, hts, hE0, hlk⟩ := id C
  obtain ⟨km0, km1, km2, km3, km4, km5⟩ := hM
  refine lv_aload_n hx hb dX11_start_0 rfl (lv_at hl 0 rfl) ?_
  refine lv_iconst (v := 0) hx hb dX11_start_1 (by decide) ?_
  refine q_put C h km0 flw_X11_75 (Or.inr ⟨_, _, _, rfl, rfl⟩) (v := .int 0) rfl rfl (Nat.le_of_ble_eq_true rfl) dX11_start_2 (fun H locs h => ?_)
  have h : hw D b0 s.heap (hu f (M 0) (.inr (12, [.int 0, .ref (M 1), .int 0, .int 0, .int 0, .ref (M 2), .ref (M 3), .ref (M 4), .ref (M 5), .ref (M 6), .int 0, .int 0, .ref (M 7), .ref (M 8), .int 0, .ref (M 9), .ref (M 10), .ref (M 11), .long 0, .ref (M 12), .ref (M 13), .ref (M 14), .ref (M 15), .ref (M 16), .ref (M 17), .ref (M 18), .ref (M 19), .int 0, .int 0, .ref (M 20), .ref (M 21), .int 0]))) H locs := h
  rw [hu_id km0] at h
  refine lv_aload_n hx hb dX11_start_5 rfl (lv_at hl 0 rfl) ?_
  refine lv_iload_n hx hb dX11_start_6 rfl (lv_at hl 1 rfl) ?_
  refine k_i (r_V C h hl (As := [.int p0]) (rest := []) (c_X11_isSet l D G b0 f M ⟨km0, km1, km2, km3, km4, km5⟩ p0) km0 (Cn := RX11) (T := TX11) (N := 32) rfl rfl mk_X11_isSet w_1624 w_1626 w_51 w_1627 ⟨Nat.le_of_ble_eq_true rfl, Nat.le_of_ble_eq_true rfl⟩ rfl (Nat.le_of_ble_eq_true rfl) ⟨Nat.le_of_ble_eq_true rfl, Nat.le_of_ble_eq_true rfl⟩ rfl dX11_start_7) h (fun r_248 f_249 H locs p_250 h => ?_)
  obtain ⟨e_, rfl⟩ := p_250
  subst e_
  refine lv_if_ne (tgt := 19) hx hb dX11_start_10 (by decide) (fun c_251 => ?_) (fun c_251 => ?_)
  · exact absurd c_251 (by decide)
  · refine lv_aload_n hx hb dX11_start_13 rfl (lv_at hl 0 rfl) ?_
    refine lv_iconst (v := 0) hx hb dX11_start_14 (by decide) ?_
    refine k_i (r_V C h hl (As := [.int 0]) (rest := []) (c_X11_refuse l D G b0 f M ⟨km0, km1, km2, km3, km4, km5⟩ ) km0 (Cn := RX11) (T := TX11) (N := 32) rfl rfl mk_X11_refuse w_1608 w_1610 w_48 w_1611 ⟨Nat.le_of_ble_eq_true rfl, Nat.le_of_ble_eq_true rfl⟩ rfl (Nat.le_of_ble_eq_true rfl) ⟨Nat.le_of_ble_eq_true rfl, Nat.le_of_ble_eq_true rfl⟩ rfl dX11_start_15) h (fun r_252 f_253 H locs p_254 h => ?_)
    subst p_254
    exact q_iret C h hr (rfl) (Nat.le_of_ble_eq_true rfl) (Nat.le_of_ble_eq_true rfl) dX11_start_18
set_option maxRecDepth 100000 in
set_option maxHeartbeats 4000000 in
theorem c_X11_at (l : Launch) (D : va_G) (G : Nat → Nat) (b0 : Nat) (f : hM) (M : Nat → Nat) (hM : mw G f M) (p0 : Int32) (p1 : Int32) (p2 : Int32) (p3 : Int32) (p4 : Int32) : mI l yX11_at cX11_at 6 (.int) { frames := 2, cells := 0, slots := 0, locals := 46 } D G b0 f [.ref (M 0), .int p0, .int p1, .int p2, .int p3, .int p4] (fun r f1 => (-1 : Int32) = r) := by
  refine met_of (own := RX11) (by decide) rfl (Nat.le_of_ble_eq_true rfl) ?_
  intro p e s m below meth c ls C hr hini hl h
  have hl : lv_has ls 6 [(0, .ref (M 0)), (1, .int p0), (2, .int p1), (3, .int p2), (4, .int p3), (5, .int p4)] := hl
  obtain ⟨hx, hb, hml, hown, hts, hE0, hlk⟩ := id C
  obtain ⟨km0, km1, km2, km3, km4, km5⟩ := hM
  refine lv_aload_n hx hb dX11_at_0 rfl (lv_at hl 0 rfl) ?_
  refine lv_iconst (v := 0) hx hb dX11_at_1 (by decide) ?_
  refine q_put C h km0 flw_X11_75 (Or.inr ⟨_, _, _, rfl, rfl⟩) (v := .int 0) rfl rfl (Nat.le_of_ble_eq_true rfl) dX11_at_2 (fun H locs h => ?_)
  have h : hw D b0 s.heap (hu f (M 0) (.inr (12, [.int 0, .ref (M 1), .int 0, .int 0, .int 0, .ref (M 2), .ref (M 3), .ref (M 4), .ref (M 5), .ref (M 6), .int 0, .int 0, .ref (M 7), .ref (M 8), .int 0, .ref (M 9), .ref (M 10), .ref (M 11), .long 0, .ref (M 12), .ref (M 13), .ref (M 14), .ref (M 15), .ref (M 16), .ref (M 17), .ref (M 18), .ref (M 19), .int 0, .int 0, .ref (M 20), .ref (M 21), .int 0]))) H locs := h
  rw [hu_id km0] at h
  refine lv_iload_n hx hb dX11_at_5 rfl (lv_at hl 1 rfl) ?_
  refine lv_i2l (v := Int32.toInt64 p0) hx hb dX11_at_6 rfl ?_
  refine lv_lconst (v := 0) hx hb dX11_at_7 (by decide) ?_
  refine lv_ldc2 (v := 2) hx hb hown (hts _ w_1651) dX11_at_8 ?_
  refine k_i (r_S C h hl (As := [.long (Int32.toInt64 p0), .long 0, .long 2]) (rest := []) (c_X11_isIn l D G b0 f  (Int32.toInt64 p0) 0 2) mk_X11_isIn w_1628 w_1629 w_1630 ⟨Nat.le_of_ble_eq_true rfl, Nat.le_of_ble_eq_true rfl⟩ rfl (Nat.le_of_ble_eq_true rfl) ⟨Nat.le_of_ble_eq_true rfl, Nat.le_of_ble_eq_true rfl⟩ rfl dX11_at_11) h (fun r_255 f_256 H locs p_257 h => ?_)
  obtain ⟨e_, rfl⟩ := p_257
  subst e_
  refine lv_if_eq (tgt := 42) hx hb dX11_at_14 (by decide) (fun c_258 => ?_) (fun c_258 => ?_)
  · refine lv_iconst (v := -1) hx hb dX11_at_42 (by decide) ?_
    exact q_iret C h hr (rfl) (Nat.le_of_ble_eq_true rfl) (Nat.le_of_ble_eq_true rfl) dX11_at_43
  · refine lv_aload_n hx hb dX11_at_17 rfl (lv_at hl 0 rfl) ?_
    refine lv_iload_n hx hb dX11_at_18 rfl (lv_at hl 2 rfl) ?_
    refine k_i (r_V C h hl (As := [.int p1]) (rest := []) (c_X11_isSet l D G b0 f M ⟨km0, km1, km2, km3, km4, km5⟩ p1) km0 (Cn := RX11) (T := TX11) (N := 32) rfl rfl mk_X11_isSet w_1624 w_1626 w_51 w_1627 ⟨Nat.le_of_ble_eq_true rfl, Nat.le_of_ble_eq_true rfl⟩ rfl (Nat.le_of_ble_eq_true rfl) ⟨Nat.le_of_ble_eq_true rfl, Nat.le_of_ble_eq_true rfl⟩ rfl dX11_at_19) h (fun r_259 f_260 H locs p_261 h => ?_)
    obtain ⟨e_, rfl⟩ := p_261
    subst e_
    refine lv_if_eq (tgt := 42) hx hb dX11_at_22 (by decide) (fun c_262 => ?_) (fun c_262 => ?_)
    · refine lv_iconst (v := -1) hx hb dX11_at_42 (by decide) ?_
      exact q_iret C h hr (rfl) (Nat.le_of_ble_eq_true rfl) (Nat.le_of_ble_eq_true rfl) dX11_at_43
    · exact absurd c_262 (by decide)
set_option maxRecDepth 100000 in
set_option maxHeartbeats 4000000 in
theorem c_X11_series (l : Launch) (D : va_G) (G : Nat → Nat) (b0 : Nat) (f : hM) (M : Nat → Nat) (hM : mw G f M) (p0 : Int32) (p1 : Int32) (p2 : Int32) : mI l yX11_series cX11_series 4 (.int) { frames := 2, cells := 0, slots := 0, locals := 46 } D G b0 f [.ref (M 0), .int p0, .int p1, .int p2] (fun r f1 => (-1 : Int32) = r) := by
  refine met_of (own := RX11) (by decide) rfl (Nat.le_of_ble_eq_true rfl) ?_
  intro p e s m below meth c ls C hr hini hl h
  have hl : lv_has ls 4 [(0, .ref (M 0)), (1, .int p0), (2, .int p1), (3, .int p2)] := hl
  obtain ⟨hx, hb, hml, hown, hts, hE0, hlk⟩ := id C
  obtain ⟨km0, km1, km2, km3, km4, km5⟩ := hM
  refine lv_aload_n hx hb dX11_series_0 rfl (lv_at hl 0 rfl) ?_
  refine lv_iconst (v := 0) hx hb dX11_series_1 (by decide) ?_
  refine q_put C h km0 flw_X11_75 (Or.inr ⟨_, _, _, rfl, rfl⟩) (v := .int 0) rfl rfl (Nat.le_of_ble_eq_true rfl) dX11_series_2 (fun H locs h => ?_)
  have h : hw D b0 s.heap (hu f (M 0) (.inr (12, [.int 0, .ref (M 1), .int 0, .int 0, .int 0, .ref (M 2), .ref (M 3), .ref (M 4), .ref (M 5), .ref (M 6), .int 0, .int 0, .ref (M 7), .ref (M 8), .int 0, .ref (M 9), .ref (M 10), .ref (M 11), .long 0, .ref (M 12), .ref (M 13), .ref (M 14), .ref (M 15), .ref (M 16), .ref (M 17), .ref (M 18), .ref (M 19), .int 0, .int 0, .ref (M 20), .ref (M 21), .int 0]))) H locs := h
  rw [hu_id km0] at h
  refine lv_aload_n hx hb dX11_series_5 rfl (lv_at hl 0 rfl) ?_
  refine lv_iload_n hx hb dX11_series_6 rfl (lv_at hl 1 rfl) ?_
  refine k_i (r_V C h hl (As := [.int p0]) (rest := []) (c_X11_isSet l D G b0 f M ⟨km0, km1, km2, km3, km4, km5⟩ p0) km0 (Cn := RX11) (T := TX11) (N := 32) rfl rfl mk_X11_isSet w_1624 w_1626 w_51 w_1627 ⟨Nat.le_of_ble_eq_true rfl, Nat.le_of_ble_eq_true rfl⟩ rfl (Nat.le_of_ble_eq_true rfl) ⟨Nat.le_of_ble_eq_true rfl, Nat.le_of_ble_eq_true rfl⟩ rfl dX11_series_7) h (fun r_263 f_264 H locs p_265 h => ?_)
  obtain ⟨e_, rfl⟩ := p_265
  subst e_
  refine lv_if_eq (tgt := 32) hx hb dX11_series_10 (by decide) (fun c_266 => ?_) (fun c_266 => ?_)
  · refine lv_iconst (v := -1) hx hb dX11_series_32 (by decide) ?_
    exact q_iret C h hr (rfl) (Nat.le_of_ble_eq_true rfl) (Nat.le_of_ble_eq_true rfl) dX11_series_33
  · exact absurd c_266 (by decide)
set_option maxRecDepth 100000 in
set_option maxHeartbeats 4000000 in
theorem c_X11_exact (l : Launch) (D : va_G) (G : Nat → Nat) (b0 : Nat) (f : hM) (M : Nat → Nat) (hM : mw G f M) (p0 : Int32) (p1 : Int32) (p2 : Int32) (p3 : Int32) : mL l yX11_exact cX11_exact 5 { frames := 2, cells := 0, slots := 0, locals := 46 } D G b0 f [.ref (M 0), .int p0, .int p1, .int p2, .int p3] (fun r f1 => (-1 : Int64) = r) := by
  refine met_of (own := RX11) (by decide) rfl (Nat.le_of_ble_eq_true rfl) ?_
  intro p e s m below meth c ls C hr hini hl h
  have hl : lv_has ls 5 [(0, .ref (M 0)), (1, .int p0), (2, .int p1), (3, .int p2), (4, .int p3)] := hl
  obtain ⟨hx, hb, hml, hown, hts, hE0, hlk⟩ := id C
  obtain ⟨km0, km1, km2, km3, km4, km5⟩ := hM
  refine lv_aload_n hx hb dX11_exact_0 rfl (lv_at hl 0 rfl) ?_
  refine lv_iconst (v := 0) hx hb dX11_exact_1 (by decide) ?_
  refine q_put C h km0 flw_X11_75 (Or.inr ⟨_, _, _, rfl, rfl⟩) (v := .int 0) rfl rfl (Nat.le_of_ble_eq_true rfl) dX11_exact_2 (fun H locs h => ?_)
  have h : hw D b0 s.heap (hu f (M 0) (.inr (12, [.int 0, .ref (M 1), .int 0, .int 0, .int 0, .ref (M 2), .ref (M 3), .ref (M 4), .ref (M 5), .ref (M 6), .int 0, .int 0, .ref (M 7), .ref (M 8), .int 0, .ref (M 9), .ref (M 10), .ref (M 11), .long 0, .ref (M 12), .ref (M 13), .ref (M 14), .ref (M 15), .ref (M 16), .ref (M 17), .ref (M 18), .ref (M 19), .int 0, .int 0, .ref (M 20), .ref (M 21), .int 0]))) H locs := h
  rw [hu_id km0] at h
  refine lv_aload_n hx hb dX11_exact_5 rfl (lv_at hl 0 rfl) ?_
  refine lv_iload_n hx hb dX11_exact_6 rfl (lv_at hl 1 rfl) ?_
  refine k_i (r_V C h hl (As := [.int p0]) (rest := []) (c_X11_isSet l D G b0 f M ⟨km0, km1, km2, km3, km4, km5⟩ p0) km0 (Cn := RX11) (T := TX11) (N := 32) rfl rfl mk_X11_isSet w_1624 w_1626 w_51 w_1627 ⟨Nat.le_of_ble_eq_true rfl, Nat.le_of_ble_eq_true rfl⟩ rfl (Nat.le_of_ble_eq_true rfl) ⟨Nat.le_of_ble_eq_true rfl, Nat.le_of_ble_eq_true rfl⟩ rfl dX11_exact_7) h (fun r_267 f_268 H locs p_269 h => ?_)
  obtain ⟨e_, rfl⟩ := p_269
  subst e_
  refine lv_if_eq (tgt := 38) hx hb dX11_exact_10 (by decide) (fun c_270 => ?_) (fun c_270 => ?_)
  · refine lv_ldc2 (v := -1) hx hb hown (hts _ w_1752) dX11_exact_38 ?_
    exact q_lret C h hr (rfl) (Nat.le_of_ble_eq_true rfl) (Nat.le_of_ble_eq_true rfl) dX11_exact_41
  · exact absurd c_270 (by decide)
set_option maxRecDepth 100000 in
set_option maxHeartbeats 4000000 in
theorem c_X11_bridge (l : Launch) (D : va_G) (G : Nat → Nat) (b0 : Nat) (f : hM) (M : Nat → Nat) (hM : mw G f M) (p0 : Int32) (p1 : Int32) (p2 : Int32) (p3 : Int32) : mI l yX11_bridge cX11_bridge 6 (.int) { frames := 2, cells := 0, slots := 0, locals := 46 } D G b0 f [.ref (M 0), .int p0, .int p1, .int p2, .int p3] (fun r f1 => (-1 : Int32) = r) := by
  refine met_of (own := RX11) (by decide) rfl (Nat.le_of_ble_eq_true rfl) ?_
  intro p e s m below meth c ls C hr hini hl h
  have hl : lv_has ls 6 [(0, .ref (M 0)), (1, .int p0), (2, .int p1), (3, .int p2), (4, .int p3)] := hl
  obtain ⟨hx, hb, hml, hown, hts, hE0, hlk⟩ := id C
  obtain ⟨km0, km1, km2, km3, km4, km5⟩ := hM
  refine lv_aload_n hx hb dX11_bridge_0 rfl (lv_at hl 0 rfl) ?_
  refine lv_iconst (v := 0) hx hb dX11_bridge_1 (by decide) ?_
  refine q_put C h km0 flw_X11_75 (Or.inr ⟨_, _, _, rfl, rfl⟩) (v := .int 0) rfl rfl (Nat.le_of_ble_eq_true rfl) dX11_bridge_2 (fun H locs h => ?_)
  have h : hw D b0 s.heap (hu f (M 0) (.inr (12, [.int 0, .ref (M 1), .int 0, .int 0, .int 0, .ref (M 2), .ref (M 3), .ref (M 4), .ref (M 5), .ref (M 6), .int 0, .int 0, .ref (M 7), .ref (M 8), .int 0, .ref (M 9), .ref (M 10), .ref (M 11), .long 0, .ref (M 12), .ref (M 13), .ref (M 14), .ref (M 15), .ref (M 16), .ref (M 17), .ref (M 18), .ref (M 19), .int 0, .int 0, .ref (M 20), .ref (M 21), .int 0]))) H locs := h
  rw [hu_id km0] at h
  refine lv_aload_n hx hb dX11_bridge_5 rfl (lv_at hl 0 rfl) ?_
  refine lv_iload_n hx hb dX11_bridge_6 rfl (lv_at hl 1 rfl) ?_
  refine k_i (r_V C h hl (As := [.int p0]) (rest := []) (c_X11_isSet l D G b0 f M ⟨km0, km1, km2, km3, km4, km5⟩ p0) km0 (Cn := RX11) (T := TX11) (N := 32) rfl rfl mk_X11_isSet w_1624 w_1626 w_51 w_1627 ⟨Nat.le_of_ble_eq_true rfl, Nat.le_of_ble_eq_true rfl⟩ rfl (Nat.le_of_ble_eq_true rfl) ⟨Nat.le_of_ble_eq_true rfl, Nat.le_of_ble_eq_true rfl⟩ rfl dX11_bridge_7) h (fun r_271 f_272 H locs p_273 h => ?_)
  obtain ⟨e_, rfl⟩ := p_273
  subst e_
  refine lv_if_eq (tgt := 29) hx hb dX11_bridge_10 (by decide) (fun c_274 => ?_) (fun c_274 => ?_)
  · refine lv_iconst (v := -1) hx hb dX11_bridge_29 (by decide) ?_
    exact q_iret C h hr (rfl) (Nat.le_of_ble_eq_true rfl) (Nat.le_of_ble_eq_true rfl) dX11_bridge_30
  · exact absurd c_274 (by decide)
set_option maxRecDepth 100000 in
set_option maxHeartbeats 4000000 in
theorem c_X11_reflected (l : Launch) (D : va_G) (G : Nat → Nat) (b0 : Nat) (f : hM) (M : Nat → Nat) (hM : mw G f M) (p0 : Int32) (p1 : Int32) (p2 : Int32) (p3 : Int32) : mI l yX11_reflected cX11_reflected 7 (.int) { frames := 2, cells := 0, slots := 0, locals := 46 } D G b0 f [.ref (M 0), .int p0, .int p1, .int p2, .int p3] (fun r f1 => (-1000000 : Int32) = r) := by
  refine met_of (own := RX11) (by decide) rfl (Nat.le_of_ble_eq_true rfl) ?_
  intro p e s m below meth c ls C hr hini hl h
  have hl : lv_has ls 7 [(0, .ref (M 0)), (1, .int p0), (2, .int p1), (3, .int p2), (4, .int p3)] := hl
  obtain ⟨hx, hb, hml, hown, hts, hE0, hlk⟩ := id C
  obtain ⟨km0, km1, km2, km3, km4, km5⟩ := hM
  refine lv_aload_n hx hb dX11_reflected_0 rfl (lv_at hl 0 rfl) ?_
  refine lv_iconst (v := 0) hx hb dX11_reflected_1 (by decide) ?_
  refine q_put C h km0 flw_X11_75 (Or.inr ⟨_, _, _, rfl, rfl⟩) (v := .int 0) rfl rfl (Nat.le_of_ble_eq_true rfl) dX11_reflected_2 (fun H locs h => ?_)
  have h : hw D b0 s.heap (hu f (M 0) (.inr (12, [.int 0, .ref (M 1), .int 0, .int 0, .int 0, .ref (M 2), .ref (M 3), .ref (M 4), .ref (M 5), .ref (M 6), .int 0, .int 0, .ref (M 7), .ref (M 8), .int 0, .ref (M 9), .ref (M 10), .ref (M 11), .long 0, .ref (M 12), .ref (M 13), .ref (M 14), .ref (M 15), .ref (M 16), .ref (M 17), .ref (M 18), .ref (M 19), .int 0, .int 0, .ref (M 20), .ref (M 21), .int 0]))) H locs := h
  rw [hu_id km0] at h
  refine lv_aload_n hx hb dX11_reflected_5 rfl (lv_at hl 0 rfl) ?_
  refine lv_iload_n hx hb dX11_reflected_6 rfl (lv_at hl 1 rfl) ?_
  refine k_i (r_V C h hl (As := [.int p0]) (rest := []) (c_X11_isSet l D G b0 f M ⟨km0, km1, km2, km3, km4, km5⟩ p0) km0 (Cn := RX11) (T := TX11) (N := 32) rfl rfl mk_X11_isSet w_1624 w_1626 w_51 w_1627 ⟨Nat.le_of_ble_eq_true rfl, Nat.le_of_ble_eq_true rfl⟩ rfl (Nat.le_of_ble_eq_true rfl) ⟨Nat.le_of_ble_eq_true rfl, Nat.le_of_ble_eq_true rfl⟩ rfl dX11_reflected_7) h (fun r_275 f_276 H locs p_277 h => ?_)
  obtain ⟨e_, rfl⟩ := p_277
  subst e_
  refine lv_if_eq (tgt := 53) hx hb dX11_reflected_10 (by decide) (fun c_278 => ?_) (fun c_278 => ?_)
  · refine lv_ldcw (v := -1000000) hx hb hown (hts _ w_1791) dX11_reflected_53 ?_
    exact q_iret C h hr (rfl) (Nat.le_of_ble_eq_true rfl) (Nat.le_of_ble_eq_true rfl) dX11_reflected_56
  · exact absurd c_278 (by decide)
set_option maxRecDepth 100000 in
set_option maxHeartbeats 4000000 in
theorem c_X11_rank (l : Launch) (D : va_G) (G : Nat → Nat) (b0 : Nat) (f : hM) (M : Nat → Nat) (hM : mw G f M) (p0 : Int32) (p1 : Int32) : mI l yX11_rank cX11_rank 5 (.int) { frames := 2, cells := 0, slots := 0, locals := 46 } D G b0 f [.ref (M 0), .int p0, .int p1] (fun r f1 => (-1 : Int32) = r) := by
  refine met_of (own := RX11) (by decide) rfl (Nat.le_of_ble_eq_true rfl) ?_
  intro p e s m below meth c ls C hr hini hl h
  have hl : lv_has ls 5 [(0, .ref (M 0)), (1, .int p0), (2, .int p1)] := hl
  obtain ⟨hx, hb, hml, hown, hts, hE0, hlk⟩ := id C
  obtain ⟨km0, km1, km2, km3, km4, km5⟩ := hM
  refine lv_aload_n hx hb dX11_rank_0 rfl (lv_at hl 0 rfl) ?_
  refine lv_iconst (v := 0) hx hb dX11_rank_1 (by decide) ?_
  refine q_put C h km0 flw_X11_75 (Or.inr ⟨_, _, _, rfl, rfl⟩) (v := .int 0) rfl rfl (Nat.le_of_ble_eq_true rfl) dX11_rank_2 (fun H locs h => ?_)
  have h : hw D b0 s.heap (hu f (M 0) (.inr (12, [.int 0, .ref (M 1), .int 0, .int 0, .int 0, .ref (M 2), .ref (M 3), .ref (M 4), .ref (M 5), .ref (M 6), .int 0, .int 0, .ref (M 7), .ref (M 8), .int 0, .ref (M 9), .ref (M 10), .ref (M 11), .long 0, .ref (M 12), .ref (M 13), .ref (M 14), .ref (M 15), .ref (M 16), .ref (M 17), .ref (M 18), .ref (M 19), .int 0, .int 0, .ref (M 20), .ref (M 21), .int 0]))) H locs := h
  rw [hu_id km0] at h
  refine lv_aload_n hx hb dX11_rank_5 rfl (lv_at hl 0 rfl) ?_
  refine lv_iload_n hx hb dX11_rank_6 rfl (lv_at hl 1 rfl) ?_
  refine k_i (r_V C h hl (As := [.int p0]) (rest := []) (c_X11_isSet l D G b0 f M ⟨km0, km1, km2, km3, km4, km5⟩ p0) km0 (Cn := RX11) (T := TX11) (N := 32) rfl rfl mk_X11_isSet w_1624 w_1626 w_51 w_1627 ⟨Nat.le_of_ble_eq_true rfl, Nat.le_of_ble_eq_true rfl⟩ rfl (Nat.le_of_ble_eq_true rfl) ⟨Nat.le_of_ble_eq_true rfl, Nat.le_of_ble_eq_true rfl⟩ rfl dX11_rank_7) h (fun r_279 f_280 H locs p_281 h => ?_)
  obtain ⟨e_, rfl⟩ := p_281
  subst e_
  refine lv_if_eq (tgt := 25) hx hb dX11_rank_10 (by decide) (fun c_282 => ?_) (fun c_282 => ?_)
  · refine lv_iconst (v := -1) hx hb dX11_rank_25 (by decide) ?_
    exact q_iret C h hr (rfl) (Nat.le_of_ble_eq_true rfl) (Nat.le_of_ble_eq_true rfl) dX11_rank_26
  · exact absurd c_282 (by decide)
set_option maxRecDepth 100000 in
set_option maxHeartbeats 4000000 in
theorem c_X11_ratio (l : Launch) (D : va_G) (G : Nat → Nat) (b0 : Nat) (f : hM) (M : Nat → Nat) (hM : mw G f M) (p0 : Int32) (p1 : Int32) (p2 : Int32) : mI l yX11_ratio cX11_ratio 4 (.int) { frames := 2, cells := 0, slots := 0, locals := 46 } D G b0 f [.ref (M 0), .int p0, .int p1, .int p2] (fun r f1 => (-1 : Int32) = r) := by
  refine met_of (own := RX11) (by decide) rfl (Nat.le_of_ble_eq_true rfl) ?_
  intro p e s m below meth c ls C hr hini hl h
  have hl : lv_has ls 4 [(0, .ref (M 0)), (1, .int p0), (2, .int p1), (3, .int p2)] := hl
  obtain ⟨hx, hb, hml, hown, hts, hE0, hlk⟩ := id C
  obtain ⟨km0, km1, km2, km3, km4, km5⟩ := hM
  refine lv_aload_n hx hb dX11_ratio_0 rfl (lv_at hl 0 rfl) ?_
  refine lv_iconst (v := 0) hx hb dX11_ratio_1 (by decide) ?_
  refine q_put C h km0 flw_X11_75 (Or.inr ⟨_, _, _, rfl, rfl⟩) (v := .int 0) rfl rfl (Nat.le_of_ble_eq_true rfl) dX11_ratio_2 (fun H locs h => ?_)
  have h : hw D b0 s.heap (hu f (M 0) (.inr (12, [.int 0, .ref (M 1), .int 0, .int 0, .int 0, .ref (M 2), .ref (M 3), .ref (M 4), .ref (M 5), .ref (M 6), .int 0, .int 0, .ref (M 7), .ref (M 8), .int 0, .ref (M 9), .ref (M 10), .ref (M 11), .long 0, .ref (M 12), .ref (M 13), .ref (M 14), .ref (M 15), .ref (M 16), .ref (M 17), .ref (M 18), .ref (M 19), .int 0, .int 0, .ref (M 20), .ref (M 21), .int 0]))) H locs := h
  rw [hu_id km0] at h
  refine lv_aload_n hx hb dX11_ratio_5 rfl (lv_at hl 0 rfl) ?_
  refine lv_iload_n hx hb dX11_ratio_6 rfl (lv_at hl 1 rfl) ?_
  refine k_i (r_V C h hl (As := [.int p0]) (rest := []) (c_X11_isSet l D G b0 f M ⟨km0, km1, km2, km3, km4, km5⟩ p0) km0 (Cn := RX11) (T := TX11) (N := 32) rfl rfl mk_X11_isSet w_1624 w_1626 w_51 w_1627 ⟨Nat.le_of_ble_eq_true rfl, Nat.le_of_ble_eq_true rfl⟩ rfl (Nat.le_of_ble_eq_true rfl) ⟨Nat.le_of_ble_eq_true rfl, Nat.le_of_ble_eq_true rfl⟩ rfl dX11_ratio_7) h (fun r_283 f_284 H locs p_285 h => ?_)
  obtain ⟨e_, rfl⟩ := p_285
  subst e_
  refine lv_if_eq (tgt := 37) hx hb dX11_ratio_10 (by decide) (fun c_286 => ?_) (fun c_286 => ?_)
  · refine lv_iconst (v := -1) hx hb dX11_ratio_37 (by decide) ?_
    exact q_iret C h hr (rfl) (Nat.le_of_ble_eq_true rfl) (Nat.le_of_ble_eq_true rfl) dX11_ratio_38
  · exact absurd c_286 (by decide)
set_option maxRecDepth 100000 in
set_option maxHeartbeats 4000000 in
theorem c_X11_hankel (l : Launch) (D : va_G) (G : Nat → Nat) (b0 : Nat) (f : hM) (M : Nat → Nat) (hM : mw G f M) (p0 : Int32) (p1 : Int32) (p2 : Int32) : mI l yX11_hankel cX11_hankel 6 (.int) { frames := 2, cells := 0, slots := 0, locals := 46 } D G b0 f [.ref (M 0), .int p0, .int p1, .int p2] (fun r f1 => (-1 : Int32) = r) := by
  refine met_of (own := RX11) (by decide) rfl (Nat.le_of_ble_eq_true rfl) ?_
  intro p e s m below meth c ls C hr hini hl h
  have hl : lv_has ls 6 [(0, .ref (M 0)), (1, .int p0), (2, .int p1), (3, .int p2)] := hl
  obtain ⟨hx, hb, hml, hown, hts, hE0, hlk⟩ := id C
  obtain ⟨km0, km1, km2, km3, km4, km5⟩ := hM
  refine lv_aload_n hx hb dX11_hankel_0 rfl (lv_at hl 0 rfl) ?_
  refine lv_iconst (v := 0) hx hb dX11_hankel_1 (by decide) ?_
  refine q_put C h km0 flw_X11_75 (Or.inr ⟨_, _, _, rfl, rfl⟩) (v := .int 0) rfl rfl (Nat.le_of_ble_eq_true rfl) dX11_hankel_2 (fun H locs h => ?_)
  have h : hw D b0 s.heap (hu f (M 0) (.inr (12, [.int 0, .ref (M 1), .int 0, .int 0, .int 0, .ref (M 2), .ref (M 3), .ref (M 4), .ref (M 5), .ref (M 6), .int 0, .int 0, .ref (M 7), .ref (M 8), .int 0, .ref (M 9), .ref (M 10), .ref (M 11), .long 0, .ref (M 12), .ref (M 13), .ref (M 14), .ref (M 15), .ref (M 16), .ref (M 17), .ref (M 18), .ref (M 19), .int 0, .int 0, .ref (M 20), .ref (M 21), .int 0]))) H locs := h
  rw [hu_id km0] at h
  refine lv_aload_n hx hb dX11_hankel_5 rfl (lv_at hl 0 rfl) ?_
  refine lv_iload_n hx hb dX11_hankel_6 rfl (lv_at hl 1 rfl) ?_
  refine k_i (r_V C h hl (As := [.int p0]) (rest := []) (c_X11_isSet l D G b0 f M ⟨km0, km1, km2, km3, km4, km5⟩ p0) km0 (Cn := RX11) (T := TX11) (N := 32) rfl rfl mk_X11_isSet w_1624 w_1626 w_51 w_1627 ⟨Nat.le_of_ble_eq_true rfl, Nat.le_of_ble_eq_true rfl⟩ rfl (Nat.le_of_ble_eq_true rfl) ⟨Nat.le_of_ble_eq_true rfl, Nat.le_of_ble_eq_true rfl⟩ rfl dX11_hankel_7) h (fun r_287 f_288 H locs p_289 h => ?_)
  obtain ⟨e_, rfl⟩ := p_289
  subst e_
  refine lv_if_eq (tgt := 37) hx hb dX11_hankel_10 (by decide) (fun c_290 => ?_) (fun c_290 => ?_)
  · refine lv_iconst (v := -1) hx hb dX11_hankel_37 (by decide) ?_
    exact q_iret C h hr (rfl) (Nat.le_of_ble_eq_true rfl) (Nat.le_of_ble_eq_true rfl) dX11_hankel_38
  · exact absurd c_290 (by decide)
set_option maxRecDepth 100000 in
set_option maxHeartbeats 4000000 in
theorem c_X11_convolved (l : Launch) (D : va_G) (G : Nat → Nat) (b0 : Nat) (f : hM) (M : Nat → Nat) (hM : mw G f M) (p0 : Int32) (p1 : Int32) (p2 : Int32) (p3 : Int32) (p4 : Int32) : mI l yX11_convolved cX11_convolved 9 (.int) { frames := 2, cells := 0, slots := 0, locals := 46 } D G b0 f [.ref (M 0), .int p0, .int p1, .int p2, .int p3, .int p4] (fun r f1 => (-1 : Int32) = r) := by
  refine met_of (own := RX11) (by decide) rfl (Nat.le_of_ble_eq_true rfl) ?_
  intro p e s m below meth c ls C hr hini hl h
  have hl : lv_has ls 9 [(0, .ref (M 0)), (1, .int p0), (2, .int p1), (3, .int p2), (4, .int p3), (5, .int p4)] := hl
  obtain ⟨hx, hb, hml, hown, hts, hE0, hlk⟩ := id C
  obtain ⟨km0, km1, km2, km3, km4, km5⟩ := hM
  refine lv_aload_n hx hb dX11_convolved_0 rfl (lv_at hl 0 rfl) ?_
  refine lv_iconst (v := 0) hx hb dX11_convolved_1 (by decide) ?_
  refine q_put C h km0 flw_X11_75 (Or.inr ⟨_, _, _, rfl, rfl⟩) (v := .int 0) rfl rfl (Nat.le_of_ble_eq_true rfl) dX11_convolved_2 (fun H locs h => ?_)
  have h : hw D b0 s.heap (hu f (M 0) (.inr (12, [.int 0, .ref (M 1), .int 0, .int 0, .int 0, .ref (M 2), .ref (M 3), .ref (M 4), .ref (M 5), .ref (M 6), .int 0, .int 0, .ref (M 7), .ref (M 8), .int 0, .ref (M 9), .ref (M 10), .ref (M 11), .long 0, .ref (M 12), .ref (M 13), .ref (M 14), .ref (M 15), .ref (M 16), .ref (M 17), .ref (M 18), .ref (M 19), .int 0, .int 0, .ref (M 20), .ref (M 21), .int 0]))) H locs := h
  rw [hu_id km0] at h
  refine lv_aload_n hx hb dX11_convolved_5 rfl (lv_at hl 0 rfl) ?_
  refine lv_iload_n hx hb dX11_convolved_6 rfl (lv_at hl 1 rfl) ?_
  refine k_i (r_V C h hl (As := [.int p0]) (rest := []) (c_X11_isSet l D G b0 f M ⟨km0, km1, km2, km3, km4, km5⟩ p0) km0 (Cn := RX11) (T := TX11) (N := 32) rfl rfl mk_X11_isSet w_1624 w_1626 w_51 w_1627 ⟨Nat.le_of_ble_eq_true rfl, Nat.le_of_ble_eq_true rfl⟩ rfl (Nat.le_of_ble_eq_true rfl) ⟨Nat.le_of_ble_eq_true rfl, Nat.le_of_ble_eq_true rfl⟩ rfl dX11_convolved_7) h (fun r_291 f_292 H locs p_293 h => ?_)
  obtain ⟨e_, rfl⟩ := p_293
  subst e_
  refine lv_if_eq (tgt := 54) hx hb dX11_convolved_10 (by decide) (fun c_294 => ?_) (fun c_294 => ?_)
  · refine lv_iconst (v := -1) hx hb dX11_convolved_54 (by decide) ?_
    exact q_iret C h hr (rfl) (Nat.le_of_ble_eq_true rfl) (Nat.le_of_ble_eq_true rfl) dX11_convolved_55
  · exact absurd c_294 (by decide)
set_option maxRecDepth 100000 in
set_option maxHeartbeats 4000000 in
theorem c_X11_out (l : Launch) (D : va_G) (G : Nat → Nat) (b0 : Nat) (f : hM) (M : Nat → Nat) (hM : mw G f M) (p0 : Int32) (p1 : Int32) : mI l yX11_out cX11_out 9 (.int) { frames := 2, cells := 0, slots := 0, locals := 46 } D G b0 f [.ref (M 0), .int p0, .int p1] (fun r f1 => (-1 : Int32) = r) := by
  refine met_of (own := RX11) (by decide) rfl (Nat.le_of_ble_eq_true rfl) ?_
  intro p e s m below meth c ls C hr hini hl h
  have hl : lv_has ls 9 [(0, .ref (M 0)), (1, .int p0), (2, .int p1)] := hl
  obtain ⟨hx, hb, hml, hown, hts, hE0, hlk⟩ := id C
  obtain ⟨km0, km1, km2, km3, km4, km5⟩ := hM
  refine lv_aload_n hx hb dX11_out_0 rfl (lv_at hl 0 rfl) ?_
  refine lv_iconst (v := 0) hx hb dX11_out_1 (by decide) ?_
  refine q_put C h km0 flw_X11_75 (Or.inr ⟨_, _, _, rfl, rfl⟩) (v := .int 0) rfl rfl (Nat.le_of_ble_eq_true rfl) dX11_out_2 (fun H locs h => ?_)
  have h : hw D b0 s.heap (hu f (M 0) (.inr (12, [.int 0, .ref (M 1), .int 0, .int 0, .int 0, .ref (M 2), .ref (M 3), .ref (M 4), .ref (M 5), .ref (M 6), .int 0, .int 0, .ref (M 7), .ref (M 8), .int 0, .ref (M 9), .ref (M 10), .ref (M 11), .long 0, .ref (M 12), .ref (M 13), .ref (M 14), .ref (M 15), .ref (M 16), .ref (M 17), .ref (M 18), .ref (M 19), .int 0, .int 0, .ref (M 20), .ref (M 21), .int 0]))) H locs := h
  rw [hu_id km0] at h
  refine lv_aload_n hx hb dX11_out_5 rfl (lv_at hl 0 rfl) ?_
  refine lv_iload_n hx hb dX11_out_6 rfl (lv_at hl 1 rfl) ?_
  refine k_i (r_V C h hl (As := [.int p0]) (rest := []) (c_X11_isSet l D G b0 f M ⟨km0, km1, km2, km3, km4, km5⟩ p0) km0 (Cn := RX11) (T := TX11) (N := 32) rfl rfl mk_X11_isSet w_1624 w_1626 w_51 w_1627 ⟨Nat.le_of_ble_eq_true rfl, Nat.le_of_ble_eq_true rfl⟩ rfl (Nat.le_of_ble_eq_true rfl) ⟨Nat.le_of_ble_eq_true rfl, Nat.le_of_ble_eq_true rfl⟩ rfl dX11_out_7) h (fun r_295 f_296 H locs p_297 h => ?_)
  obtain ⟨e_, rfl⟩ := p_297
  subst e_
  refine lv_if_eq (tgt := 20) hx hb dX11_out_10 (by decide) (fun c_298 => ?_) (fun c_298 => ?_)
  · refine lv_iconst (v := -1) hx hb dX11_out_20 (by decide) ?_
    exact q_iret C h hr (rfl) (Nat.le_of_ble_eq_true rfl) (Nat.le_of_ble_eq_true rfl) dX11_out_21
  · exact absurd c_298 (by decide)
set_option maxRecDepth 100000 in
set_option maxHeartbeats 4000000 in
theorem c_X11_arches (l : Launch) (D : va_G) (G : Nat → Nat) (b0 : Nat) (f : hM) (M : Nat → Nat) (hM : mw G f M) (p0 : Int32) (p1 : Int32) : mI l yX11_arches cX11_arches 7 (.int) { frames := 2, cells := 0, slots := 0, locals := 46 } D G b0 f [.ref (M 0), .int p0, .int p1] (fun r f1 => (-1 : Int32) = r) := by
  refine met_of (own := RX11) (by decide) rfl (Nat.le_of_ble_eq_true rfl) ?_
  intro p e s m below meth c ls C hr hini hl h
  have hl : lv_has ls 7 [(0, .ref (M 0)), (1, .int p0), (2, .int p1)] := hl
  obtain ⟨hx, hb, hml, hown, hts, hE0, hlk⟩ := id C
  obtain ⟨km0, km1, km2, km3, km4, km5⟩ := hM
  refine lv_aload_n hx hb dX11_arches_0 rfl (lv_at hl 0 rfl) ?_
  refine lv_iconst (v := 0) hx hb dX11_arches_1 (by decide) ?_
  refine q_put C h km0 flw_X11_75 (Or.inr ⟨_, _, _, rfl, rfl⟩) (v := .int 0) rfl rfl (Nat.le_of_ble_eq_true rfl) dX11_arches_2 (fun H locs h => ?_)
  have h : hw D b0 s.heap (hu f (M 0) (.inr (12, [.int 0, .ref (M 1), .int 0, .int 0, .int 0, .ref (M 2), .ref (M 3), .ref (M 4), .ref (M 5), .ref (M 6), .int 0, .int 0, .ref (M 7), .ref (M 8), .int 0, .ref (M 9), .ref (M 10), .ref (M 11), .long 0, .ref (M 12), .ref (M 13), .ref (M 14), .ref (M 15), .ref (M 16), .ref (M 17), .ref (M 18), .ref (M 19), .int 0, .int 0, .ref (M 20), .ref (M 21), .int 0]))) H locs := h
  rw [hu_id km0] at h
  refine lv_aload_n hx hb dX11_arches_5 rfl (lv_at hl 0 rfl) ?_
  refine lv_iload_n hx hb dX11_arches_6 rfl (lv_at hl 1 rfl) ?_
  refine k_i (r_V C h hl (As := [.int p0]) (rest := []) (c_X11_isSet l D G b0 f M ⟨km0, km1, km2, km3, km4, km5⟩ p0) km0 (Cn := RX11) (T := TX11) (N := 32) rfl rfl mk_X11_isSet w_1624 w_1626 w_51 w_1627 ⟨Nat.le_of_ble_eq_true rfl, Nat.le_of_ble_eq_true rfl⟩ rfl (Nat.le_of_ble_eq_true rfl) ⟨Nat.le_of_ble_eq_true rfl, Nat.le_of_ble_eq_true rfl⟩ rfl dX11_arches_7) h (fun r_299 f_300 H locs p_301 h => ?_)
  obtain ⟨e_, rfl⟩ := p_301
  subst e_
  refine lv_if_eq (tgt := 25) hx hb dX11_arches_10 (by decide) (fun c_302 => ?_) (fun c_302 => ?_)
  · refine lv_iconst (v := -1) hx hb dX11_arches_25 (by decide) ?_
    exact q_iret C h hr (rfl) (Nat.le_of_ble_eq_true rfl) (Nat.le_of_ble_eq_true rfl) dX11_arches_26
  · exact absurd c_302 (by decide)
set_option maxRecDepth 100000 in
set_option maxHeartbeats 4000000 in
theorem c_X11_value (l : Launch) (D : va_G) (G : Nat → Nat) (b0 : Nat) (f : hM) (M : Nat → Nat) (hM : mw G f M) (p0 : Int32) (p1 : Int32) (p2 : Int32) (p3 : Int32) : mI l yX11_value cX11_value 13 (.int) { frames := 2, cells := 0, slots := 0, locals := 46 } D G b0 f [.ref (M 0), .int p0, .int p1, .int p2, .int p3] (fun r f1 => (-1 : Int32) = r) := by
  refine met_of (own := RX11) (by decide) rfl (Nat.le_of_ble_eq_true rfl) ?_
  intro p e s m below meth c ls C hr hini hl h
  have hl : lv_has ls 13 [(0, .ref (M 0)), (1, .int p0), (2, .int p1), (3, .int p2), (4, .int p3)] := hl
  obtain ⟨hx, hb, hml, hown, hts, hE0, hlk⟩ := id C
  obtain ⟨km0, km1, km2, km3, km4, km5⟩ := hM
  refine lv_aload_n hx hb dX11_value_0 rfl (lv_at hl 0 rfl) ?_
  refine lv_iconst (v := 0) hx hb dX11_value_1 (by decide) ?_
  refine q_put C h km0 flw_X11_75 (Or.inr ⟨_, _, _, rfl, rfl⟩) (v := .int 0) rfl rfl (Nat.le_of_ble_eq_true rfl) dX11_value_2 (fun H locs h => ?_)
  have h : hw D b0 s.heap (hu f (M 0) (.inr (12, [.int 0, .ref (M 1), .int 0, .int 0, .int 0, .ref (M 2), .ref (M 3), .ref (M 4), .ref (M 5), .ref (M 6), .int 0, .int 0, .ref (M 7), .ref (M 8), .int 0, .ref (M 9), .ref (M 10), .ref (M 11), .long 0, .ref (M 12), .ref (M 13), .ref (M 14), .ref (M 15), .ref (M 16), .ref (M 17), .ref (M 18), .ref (M 19), .int 0, .int 0, .ref (M 20), .ref (M 21), .int 0]))) H locs := h
  rw [hu_id km0] at h
  refine lv_aload_n hx hb dX11_value_5 rfl (lv_at hl 0 rfl) ?_
  refine lv_iload_n hx hb dX11_value_6 rfl (lv_at hl 1 rfl) ?_
  refine k_i (r_V C h hl (As := [.int p0]) (rest := []) (c_X11_isSet l D G b0 f M ⟨km0, km1, km2, km3, km4, km5⟩ p0) km0 (Cn := RX11) (T := TX11) (N := 32) rfl rfl mk_X11_isSet w_1624 w_1626 w_51 w_1627 ⟨Nat.le_of_ble_eq_true rfl, Nat.le_of_ble_eq_true rfl⟩ rfl (Nat.le_of_ble_eq_true rfl) ⟨Nat.le_of_ble_eq_true rfl, Nat.le_of_ble_eq_true rfl⟩ rfl dX11_value_7) h (fun r_303 f_304 H locs p_305 h => ?_)
  obtain ⟨e_, rfl⟩ := p_305
  subst e_
  refine lv_if_eq (tgt := 45) hx hb dX11_value_10 (by decide) (fun c_306 => ?_) (fun c_306 => ?_)
  · refine lv_iconst (v := -1) hx hb dX11_value_45 (by decide) ?_
    exact q_iret C h hr (rfl) (Nat.le_of_ble_eq_true rfl) (Nat.le_of_ble_eq_true rfl) dX11_value_46
  · exact absurd c_306 (by decide)
set_option maxRecDepth 100000 in
set_option maxHeartbeats 4000000 in
theorem c_X11_walk (l : Launch) (D : va_G) (G : Nat → Nat) (b0 : Nat) (f : hM) (M : Nat → Nat) (hM : mw G f M) (p0 : Int32) (p1 : Int32) (p2 : Int32) (p3 : Int32) (p4 : Int32) (p5 : Int32) : mI l yX11_walk cX11_walk 9 (.int) { frames := 2, cells := 0, slots := 0, locals := 46 } D G b0 f [.ref (M 0), .int p0, .int p1, .int p2, .int p3, .int p4, .int p5] (fun r f1 => (-1000000 : Int32) = r) := by
  refine met_of (own := RX11) (by decide) rfl (Nat.le_of_ble_eq_true rfl) ?_
  intro p e s m below meth c ls C hr hini hl h
  have hl : lv_has ls 9 [(0, .ref (M 0)), (1, .int p0), (2, .int p1), (3, .int p2), (4, .int p3), (5, .int p4), (6, .int p5)] := hl
  obtain ⟨hx, hb, hml, hown, hts, hE0, hlk⟩ := id C
  obtain ⟨km0, km1, km2, km3, km4, km5⟩ := hM
  refine lv_aload_n hx hb dX11_walk_0 rfl (lv_at hl 0 rfl) ?_
  refine lv_iconst (v := 0) hx hb dX11_walk_1 (by decide) ?_
  refine q_put C h km0 flw_X11_75 (Or.inr ⟨_, _, _, rfl, rfl⟩) (v := .int 0) rfl rfl (Nat.le_of_ble_eq_true rfl) dX11_walk_2 (fun H locs h => ?_)
  have h : hw D b0 s.heap (hu f (M 0) (.inr (12, [.int 0, .ref (M 1), .int 0, .int 0, .int 0, .ref (M 2), .ref (M 3), .ref (M 4), .ref (M 5), .ref (M 6), .int 0, .int 0, .ref (M 7), .ref (M 8), .int 0, .ref (M 9), .ref (M 10), .ref (M 11), .long 0, .ref (M 12), .ref (M 13), .ref (M 14), .ref (M 15), .ref (M 16), .ref (M 17), .ref (M 18), .ref (M 19), .int 0, .int 0, .ref (M 20), .ref (M 21), .int 0]))) H locs := h
  rw [hu_id km0] at h
  refine lv_aload_n hx hb dX11_walk_5 rfl (lv_at hl 0 rfl) ?_
  refine lv_iload_n hx hb dX11_walk_6 rfl (lv_at hl 1 rfl) ?_
  refine k_i (r_V C h hl (As := [.int p0]) (rest := []) (c_X11_isSet l D G b0 f M ⟨km0, km1, km2, km3, km4, km5⟩ p0) km0 (Cn := RX11) (T := TX11) (N := 32) rfl rfl mk_X11_isSet w_1624 w_1626 w_51 w_1627 ⟨Nat.le_of_ble_eq_true rfl, Nat.le_of_ble_eq_true rfl⟩ rfl (Nat.le_of_ble_eq_true rfl) ⟨Nat.le_of_ble_eq_true rfl, Nat.le_of_ble_eq_true rfl⟩ rfl dX11_walk_7) h (fun r_307 f_308 H locs p_309 h => ?_)
  obtain ⟨e_, rfl⟩ := p_309
  subst e_
  refine lv_if_eq (tgt := 35) hx hb dX11_walk_10 (by decide) (fun c_310 => ?_) (fun c_310 => ?_)
  · refine lv_ldcw (v := -1000000) hx hb hown (hts _ w_1791) dX11_walk_35 ?_
    exact q_iret C h hr (rfl) (Nat.le_of_ble_eq_true rfl) (Nat.le_of_ble_eq_true rfl) dX11_walk_38
  · exact absurd c_310 (by decide)
set_option maxRecDepth 100000 in
set_option maxHeartbeats 4000000 in
theorem c_X11_drawn (l : Launch) (D : va_G) (G : Nat → Nat) (b0 : Nat) (f : hM) (M : Nat → Nat) (hM : mw G f M) (p0 : Int32) (p1 : Int32) (p2 : Int32) (p3 : Int32) (p4 : Int64) (p5 : Int32) : mI l yX11_drawn cX11_drawn 12 (.int) { frames := 2, cells := 0, slots := 0, locals := 46 } D G b0 f [.ref (M 0), .int p0, .int p1, .int p2, .int p3, .long p4, .int p5] (fun r f1 => (-1000000 : Int32) = r) := by
  refine met_of (own := RX11) (by decide) rfl (Nat.le_of_ble_eq_true rfl) ?_
  intro p e s m below meth c ls C hr hini hl h
  have hl : lv_has ls 12 [(0, .ref (M 0)), (1, .int p0), (2, .int p1), (3, .int p2), (4, .int p3), (5, .long p4), (7, .int p5)] := hl
  obtain ⟨hx, hb, hml, hown, hts, hE0, hlk⟩ := id C
  obtain ⟨km0, km1, km2, km3, km4, km5⟩ := hM
  refine lv_aload_n hx hb dX11_drawn_0 rfl (lv_at hl 0 rfl) ?_
  refine lv_iconst (v := 0) hx hb dX11_drawn_1 (by decide) ?_
  refine q_put C h km0 flw_X11_75 (Or.inr ⟨_, _, _, rfl, rfl⟩) (v := .int 0) rfl rfl (Nat.le_of_ble_eq_true rfl) dX11_drawn_2 (fun H locs h => ?_)
  have h : hw D b0 s.heap (hu f (M 0) (.inr (12, [.int 0, .ref (M 1), .int 0, .int 0, .int 0, .ref (M 2), .ref (M 3), .ref (M 4), .ref (M 5), .ref (M 6), .int 0, .int 0, .ref (M 7), .ref (M 8), .int 0, .ref (M 9), .ref (M 10), .ref (M 11), .long 0, .ref (M 12), .ref (M 13), .ref (M 14), .ref (M 15), .ref (M 16), .ref (M 17), .ref (M 18), .ref (M 19), .int 0, .int 0, .ref (M 20), .ref (M 21), .int 0]))) H locs := h
  rw [hu_id km0] at h
  refine lv_aload_n hx hb dX11_drawn_5 rfl (lv_at hl 0 rfl) ?_
  refine lv_iload_n hx hb dX11_drawn_6 rfl (lv_at hl 1 rfl) ?_
  refine k_i (r_V C h hl (As := [.int p0]) (rest := []) (c_X11_isSet l D G b0 f M ⟨km0, km1, km2, km3, km4, km5⟩ p0) km0 (Cn := RX11) (T := TX11) (N := 32) rfl rfl mk_X11_isSet w_1624 w_1626 w_51 w_1627 ⟨Nat.le_of_ble_eq_true rfl, Nat.le_of_ble_eq_true rfl⟩ rfl (Nat.le_of_ble_eq_true rfl) ⟨Nat.le_of_ble_eq_true rfl, Nat.le_of_ble_eq_true rfl⟩ rfl dX11_drawn_7) h (fun r_311 f_312 H locs p_313 h => ?_)
  obtain ⟨e_, rfl⟩ := p_313
  subst e_
  refine lv_if_eq (tgt := 43) hx hb dX11_drawn_10 (by decide) (fun c_314 => ?_) (fun c_314 => ?_)
  · refine lv_ldcw (v := -1000000) hx hb hown (hts _ w_1791) dX11_drawn_43 ?_
    exact q_iret C h hr (rfl) (Nat.le_of_ble_eq_true rfl) (Nat.le_of_ble_eq_true rfl) dX11_drawn_46
  · exact absurd c_314 (by decide)
set_option maxRecDepth 100000 in
set_option maxHeartbeats 4000000 in
theorem c_X11_peak (l : Launch) (D : va_G) (G : Nat → Nat) (b0 : Nat) (f : hM) (M : Nat → Nat) (hM : mw G f M) (p0 : Int32) (p1 : Int32) (p2 : Int32) : mI l yX11_peak cX11_peak 10 (.int) { frames := 2, cells := 0, slots := 0, locals := 46 } D G b0 f [.ref (M 0), .int p0, .int p1, .int p2] (fun r f1 => (-1000000 : Int32) = r) := by
  refine met_of (own := RX11) (by decide) rfl (Nat.le_of_ble_eq_true rfl) ?_
  intro p e s m below meth c ls C hr hini hl h
  have hl : lv_has ls 10 [(0, .ref (M 0)), (1, .int p0), (2, .int p1), (3, .int p2)] := hl
  obtain ⟨hx, hb, hml, hown, hts, hE0, hlk⟩ := id C
  obtain ⟨km0, km1, km2, km3, km4, km5⟩ := hM
  refine lv_aload_n hx hb dX11_peak_0 rfl (lv_at hl 0 rfl) ?_
  refine lv_iconst (v := 0) hx hb dX11_peak_1 (by decide) ?_
  refine q_put C h km0 flw_X11_75 (Or.inr ⟨_, _, _, rfl, rfl⟩) (v := .int 0) rfl rfl (Nat.le_of_ble_eq_true rfl) dX11_peak_2 (fun H locs h => ?_)
  have h : hw D b0 s.heap (hu f (M 0) (.inr (12, [.int 0, .ref (M 1), .int 0, .int 0, .int 0, .ref (M 2), .ref (M 3), .ref (M 4), .ref (M 5), .ref (M 6), .int 0, .int 0, .ref (M 7), .ref (M 8), .int 0, .ref (M 9), .ref (M 10), .ref (M 11), .long 0, .ref (M 12), .ref (M 13), .ref (M 14), .ref (M 15), .ref (M 16), .ref (M 17), .ref (M 18), .ref (M 19), .int 0, .int 0, .ref (M 20), .ref (M 21), .int 0]))) H locs := h
  rw [hu_id km0] at h
  refine lv_aload_n hx hb dX11_peak_5 rfl (lv_at hl 0 rfl) ?_
  refine lv_iload_n hx hb dX11_peak_6 rfl (lv_at hl 1 rfl) ?_
  refine k_i (r_V C h hl (As := [.int p0]) (rest := []) (c_X11_isSet l D G b0 f M ⟨km0, km1, km2, km3, km4, km5⟩ p0) km0 (Cn := RX11) (T := TX11) (N := 32) rfl rfl mk_X11_isSet w_1624 w_1626 w_51 w_1627 ⟨Nat.le_of_ble_eq_true rfl, Nat.le_of_ble_eq_true rfl⟩ rfl (Nat.le_of_ble_eq_true rfl) ⟨Nat.le_of_ble_eq_true rfl, Nat.le_of_ble_eq_true rfl⟩ rfl dX11_peak_7) h (fun r_315 f_316 H locs p_317 h => ?_)
  obtain ⟨e_, rfl⟩ := p_317
  subst e_
  refine lv_if_eq (tgt := 32) hx hb dX11_peak_10 (by decide) (fun c_318 => ?_) (fun c_318 => ?_)
  · refine lv_ldcw (v := -1000000) hx hb hown (hts _ w_1791) dX11_peak_32 ?_
    exact q_iret C h hr (rfl) (Nat.le_of_ble_eq_true rfl) (Nat.le_of_ble_eq_true rfl) dX11_peak_35
  · exact absurd c_318 (by decide)
set_option maxRecDepth 100000 in
set_option maxHeartbeats 4000000 in
theorem c_X11_points (l : Launch) (D : va_G) (G : Nat → Nat) (b0 : Nat) (f : hM) (M : Nat → Nat) (hM : mw G f M) (p0 : Int32) (p1 : Int32) : mI l yX11_points cX11_points 5 (.int) { frames := 2, cells := 0, slots := 0, locals := 46 } D G b0 f [.ref (M 0), .int p0, .int p1] (fun r f1 => (-1 : Int32) = r) := by
  refine met_of (own := RX11) (by decide) rfl (Nat.le_of_ble_eq_true rfl) ?_
  intro p e s m below meth c ls C hr hini hl h
  have hl : lv_has ls 5 [(0, .ref (M 0)), (1, .int p0), (2, .int p1)] := hl
  obtain ⟨hx, hb, hml, hown, hts, hE0, hlk⟩ := id C
  obtain ⟨km0, km1, km2, km3, km4, km5⟩ := hM
  refine lv_aload_n hx hb dX11_points_0 rfl (lv_at hl 0 rfl) ?_
  refine lv_iconst (v := 0) hx hb dX11_points_1 (by decide) ?_
  refine q_put C h km0 flw_X11_75 (Or.inr ⟨_, _, _, rfl, rfl⟩) (v := .int 0) rfl rfl (Nat.le_of_ble_eq_true rfl) dX11_points_2 (fun H locs h => ?_)
  have h : hw D b0 s.heap (hu f (M 0) (.inr (12, [.int 0, .ref (M 1), .int 0, .int 0, .int 0, .ref (M 2), .ref (M 3), .ref (M 4), .ref (M 5), .ref (M 6), .int 0, .int 0, .ref (M 7), .ref (M 8), .int 0, .ref (M 9), .ref (M 10), .ref (M 11), .long 0, .ref (M 12), .ref (M 13), .ref (M 14), .ref (M 15), .ref (M 16), .ref (M 17), .ref (M 18), .ref (M 19), .int 0, .int 0, .ref (M 20), .ref (M 21), .int 0]))) H locs := h
  rw [hu_id km0] at h
  refine lv_aload_n hx hb dX11_points_5 rfl (lv_at hl 0 rfl) ?_
  refine lv_iload_n hx hb dX11_points_6 rfl (lv_at hl 1 rfl) ?_
  refine k_i (r_V C h hl (As := [.int p0]) (rest := []) (c_X11_isSet l D G b0 f M ⟨km0, km1, km2, km3, km4, km5⟩ p0) km0 (Cn := RX11) (T := TX11) (N := 32) rfl rfl mk_X11_isSet w_1624 w_1626 w_51 w_1627 ⟨Nat.le_of_ble_eq_true rfl, Nat.le_of_ble_eq_true rfl⟩ rfl (Nat.le_of_ble_eq_true rfl) ⟨Nat.le_of_ble_eq_true rfl, Nat.le_of_ble_eq_true rfl⟩ rfl dX11_points_7) h (fun r_319 f_320 H locs p_321 h => ?_)
  obtain ⟨e_, rfl⟩ := p_321
  subst e_
  refine lv_if_eq (tgt := 20) hx hb dX11_points_10 (by decide) (fun c_322 => ?_) (fun c_322 => ?_)
  · refine lv_iconst (v := -1) hx hb dX11_points_20 (by decide) ?_
    exact q_iret C h hr (rfl) (Nat.le_of_ble_eq_true rfl) (Nat.le_of_ble_eq_true rfl) dX11_points_21
  · exact absurd c_322 (by decide)
set_option maxRecDepth 100000 in
set_option maxHeartbeats 4000000 in
theorem c_X11_fewest (l : Launch) (D : va_G) (G : Nat → Nat) (b0 : Nat) (f : hM) (M : Nat → Nat) (hM : mw G f M) (p0 : Int32) (p1 : Int32) (p2 : Int32) : mI l yX11_fewest cX11_fewest 4 (.int) { frames := 2, cells := 0, slots := 0, locals := 46 } D G b0 f [.ref (M 0), .int p0, .int p1, .int p2] (fun r f1 => (-1 : Int32) = r) := by
  refine met_of (own := RX11) (by decide) rfl (Nat.le_of_ble_eq_true rfl) ?_
  intro p e s m below meth c ls C hr hini hl h
  have hl : lv_has ls 4 [(0, .ref (M 0)), (1, .int p0), (2, .int p1), (3, .int p2)] := hl
  obtain ⟨hx, hb, hml, hown, hts, hE0, hlk⟩ := id C
  obtain ⟨km0, km1, km2, km3, km4, km5⟩ := hM
  refine lv_aload_n hx hb dX11_fewest_0 rfl (lv_at hl 0 rfl) ?_
  refine lv_iconst (v := 0) hx hb dX11_fewest_1 (by decide) ?_
  refine q_put C h km0 flw_X11_75 (Or.inr ⟨_, _, _, rfl, rfl⟩) (v := .int 0) rfl rfl (Nat.le_of_ble_eq_true rfl) dX11_fewest_2 (fun H locs h => ?_)
  have h : hw D b0 s.heap (hu f (M 0) (.inr (12, [.int 0, .ref (M 1), .int 0, .int 0, .int 0, .ref (M 2), .ref (M 3), .ref (M 4), .ref (M 5), .ref (M 6), .int 0, .int 0, .ref (M 7), .ref (M 8), .int 0, .ref (M 9), .ref (M 10), .ref (M 11), .long 0, .ref (M 12), .ref (M 13), .ref (M 14), .ref (M 15), .ref (M 16), .ref (M 17), .ref (M 18), .ref (M 19), .int 0, .int 0, .ref (M 20), .ref (M 21), .int 0]))) H locs := h
  rw [hu_id km0] at h
  refine lv_aload_n hx hb dX11_fewest_5 rfl (lv_at hl 0 rfl) ?_
  refine lv_iload_n hx hb dX11_fewest_6 rfl (lv_at hl 1 rfl) ?_
  refine k_i (r_V C h hl (As := [.int p0]) (rest := []) (c_X11_isSet l D G b0 f M ⟨km0, km1, km2, km3, km4, km5⟩ p0) km0 (Cn := RX11) (T := TX11) (N := 32) rfl rfl mk_X11_isSet w_1624 w_1626 w_51 w_1627 ⟨Nat.le_of_ble_eq_true rfl, Nat.le_of_ble_eq_true rfl⟩ rfl (Nat.le_of_ble_eq_true rfl) ⟨Nat.le_of_ble_eq_true rfl, Nat.le_of_ble_eq_true rfl⟩ rfl dX11_fewest_7) h (fun r_323 f_324 H locs p_325 h => ?_)
  obtain ⟨e_, rfl⟩ := p_325
  subst e_
  refine lv_if_eq (tgt := 21) hx hb dX11_fewest_10 (by decide) (fun c_326 => ?_) (fun c_326 => ?_)
  · refine lv_iconst (v := -1) hx hb dX11_fewest_21 (by decide) ?_
    exact q_iret C h hr (rfl) (Nat.le_of_ble_eq_true rfl) (Nat.le_of_ble_eq_true rfl) dX11_fewest_22
  · exact absurd c_326 (by decide)
set_option maxRecDepth 100000 in
set_option maxHeartbeats 4000000 in
theorem c_X11_period (l : Launch) (D : va_G) (G : Nat → Nat) (b0 : Nat) (f : hM) (M : Nat → Nat) (hM : mw G f M) (p0 : Int32) : mI l yX11_period cX11_period 4 (.int) { frames := 2, cells := 0, slots := 0, locals := 46 } D G b0 f [.ref (M 0), .int p0] (fun r f1 => (-1 : Int32) = r) := by
  refine met_of (own := RX11) (by decide) rfl (Nat.le_of_ble_eq_true rfl) ?_
  intro p e s m below meth c ls C hr hini hl h
  have hl : lv_has ls 4 [(0, .ref (M 0)), (1, .int p0)] := hl
  obtain ⟨hx, hb, hml, hown, hts, hE0, hlk⟩ := id C
  obtain ⟨km0, km1, km2, km3, km4, km5⟩ := hM
  refine lv_aload_n hx hb dX11_period_0 rfl (lv_at hl 0 rfl) ?_
  refine lv_iconst (v := 0) hx hb dX11_period_1 (by decide) ?_
  refine q_put C h km0 flw_X11_75 (Or.inr ⟨_, _, _, rfl, rfl⟩) (v := .int 0) rfl rfl (Nat.le_of_ble_eq_true rfl) dX11_period_2 (fun H locs h => ?_)
  have h : hw D b0 s.heap (hu f (M 0) (.inr (12, [.int 0, .ref (M 1), .int 0, .int 0, .int 0, .ref (M 2), .ref (M 3), .ref (M 4), .ref (M 5), .ref (M 6), .int 0, .int 0, .ref (M 7), .ref (M 8), .int 0, .ref (M 9), .ref (M 10), .ref (M 11), .long 0, .ref (M 12), .ref (M 13), .ref (M 14), .ref (M 15), .ref (M 16), .ref (M 17), .ref (M 18), .ref (M 19), .int 0, .int 0, .ref (M 20), .ref (M 21), .int 0]))) H locs := h
  rw [hu_id km0] at h
  refine lv_aload_n hx hb dX11_period_5 rfl (lv_at hl 0 rfl) ?_
  refine lv_iload_n hx hb dX11_period_6 rfl (lv_at hl 1 rfl) ?_
  refine k_i (r_V C h hl (As := [.int p0]) (rest := []) (c_X11_isSet l D G b0 f M ⟨km0, km1, km2, km3, km4, km5⟩ p0) km0 (Cn := RX11) (T := TX11) (N := 32) rfl rfl mk_X11_isSet w_1624 w_1626 w_51 w_1627 ⟨Nat.le_of_ble_eq_true rfl, Nat.le_of_ble_eq_true rfl⟩ rfl (Nat.le_of_ble_eq_true rfl) ⟨Nat.le_of_ble_eq_true rfl, Nat.le_of_ble_eq_true rfl⟩ rfl dX11_period_7) h (fun r_327 f_328 H locs p_329 h => ?_)
  obtain ⟨e_, rfl⟩ := p_329
  subst e_
  refine lv_if_ne (tgt := 15) hx hb dX11_period_10 (by decide) (fun c_330 => ?_) (fun c_330 => ?_)
  · exact absurd c_330 (by decide)
  · refine lv_iconst (v := -1) hx hb dX11_period_13 (by decide) ?_
    exact q_iret C h hr (rfl) (Nat.le_of_ble_eq_true rfl) (Nat.le_of_ble_eq_true rfl) dX11_period_14
set_option maxRecDepth 100000 in
set_option maxHeartbeats 4000000 in
theorem c_X11_meet (l : Launch) (D : va_G) (G : Nat → Nat) (b0 : Nat) (f : hM) (M : Nat → Nat) (hM : mw G f M) (p0 : Int32) (p1 : Int32) (p2 : Int32) : mI l yX11_meet cX11_meet 7 (.int) { frames := 2, cells := 0, slots := 0, locals := 46 } D G b0 f [.ref (M 0), .int p0, .int p1, .int p2] (fun r f1 => (-1 : Int32) = r) := by
  refine met_of (own := RX11) (by decide) rfl (Nat.le_of_ble_eq_true rfl) ?_
  intro p e s m below meth c ls C hr hini hl h
  have hl : lv_has ls 7 [(0, .ref (M 0)), (1, .int p0), (2, .int p1), (3, .int p2)] := hl
  obtain ⟨hx, hb, hml, hown, hts, hE0, hlk⟩ := id C
  obtain ⟨km0, km1, km2, km3, km4, km5⟩ := hM
  refine lv_aload_n hx hb dX11_meet_0 rfl (lv_at hl 0 rfl) ?_
  refine lv_iconst (v := 0) hx hb dX11_meet_1 (by decide) ?_
  refine q_put C h km0 flw_X11_75 (Or.inr ⟨_, _, _, rfl, rfl⟩) (v := .int 0) rfl rfl (Nat.le_of_ble_eq_true rfl) dX11_meet_2 (fun H locs h => ?_)
  have h : hw D b0 s.heap (hu f (M 0) (.inr (12, [.int 0, .ref (M 1), .int 0, .int 0, .int 0, .ref (M 2), .ref (M 3), .ref (M 4), .ref (M 5), .ref (M 6), .int 0, .int 0, .ref (M 7), .ref (M 8), .int 0, .ref (M 9), .ref (M 10), .ref (M 11), .long 0, .ref (M 12), .ref (M 13), .ref (M 14), .ref (M 15), .ref (M 16), .ref (M 17), .ref (M 18), .ref (M 19), .int 0, .int 0, .ref (M 20), .ref (M 21), .int 0]))) H locs := h
  rw [hu_id km0] at h
  refine lv_aload_n hx hb dX11_meet_5 rfl (lv_at hl 0 rfl) ?_
  refine lv_iload_n hx hb dX11_meet_6 rfl (lv_at hl 1 rfl) ?_
  refine k_i (r_V C h hl (As := [.int p0]) (rest := []) (c_X11_isSet l D G b0 f M ⟨km0, km1, km2, km3, km4, km5⟩ p0) km0 (Cn := RX11) (T := TX11) (N := 32) rfl rfl mk_X11_isSet w_1624 w_1626 w_51 w_1627 ⟨Nat.le_of_ble_eq_true rfl, Nat.le_of_ble_eq_true rfl⟩ rfl (Nat.le_of_ble_eq_true rfl) ⟨Nat.le_of_ble_eq_true rfl, Nat.le_of_ble_eq_true rfl⟩ rfl dX11_meet_7) h (fun r_331 f_332 H locs p_333 h => ?_)
  obtain ⟨e_, rfl⟩ := p_333
  subst e_
  refine lv_if_eq (tgt := 28) hx hb dX11_meet_10 (by decide) (fun c_334 => ?_) (fun c_334 => ?_)
  · refine lv_iconst (v := -1) hx hb dX11_meet_28 (by decide) ?_
    exact q_iret C h hr (rfl) (Nat.le_of_ble_eq_true rfl) (Nat.le_of_ble_eq_true rfl) dX11_meet_29
  · exact absurd c_334 (by decide)
set_option maxRecDepth 100000 in
set_option maxHeartbeats 4000000 in
theorem c_X11_kernel (l : Launch) (D : va_G) (G : Nat → Nat) (b0 : Nat) (f : hM) (M : Nat → Nat) (hM : mw G f M) (p0 : Int32) (p1 : Int32) (p2 : Int32) : mI l yX11_kernel cX11_kernel 7 (.int) { frames := 2, cells := 0, slots := 0, locals := 46 } D G b0 f [.ref (M 0), .int p0, .int p1, .int p2] (fun r f1 => (-1 : Int32) = r) := by
  refine met_of (own := RX11) (by decide) rfl (Nat.le_of_ble_eq_true rfl) ?_
  intro p e s m below meth c ls C hr hini hl h
  have hl : lv_has ls 7 [(0, .ref (M 0)), (1, .int p0), (2, .int p1), (3, .int p2)] := hl
  obtain ⟨hx, hb, hml, hown, hts, hE0, hlk⟩ := id C
  obtain ⟨km0, km1, km2, km3, km4, km5⟩ := hM
  refine lv_aload_n hx hb dX11_kernel_0 rfl (lv_at hl 0 rfl) ?_
  refine lv_iconst (v := 0) hx hb dX11_kernel_1 (by decide) ?_
  refine q_put C h km0 flw_X11_75 (Or.inr ⟨_, _, _, rfl, rfl⟩) (v := .int 0) rfl rfl (Nat.le_of_ble_eq_true rfl) dX11_kernel_2 (fun H locs h => ?_)
  have h : hw D b0 s.heap (hu f (M 0) (.inr (12, [.int 0, .ref (M 1), .int 0, .int 0, .int 0, .ref (M 2), .ref (M 3), .ref (M 4), .ref (M 5), .ref (M 6), .int 0, .int 0, .ref (M 7), .ref (M 8), .int 0, .ref (M 9), .ref (M 10), .ref (M 11), .long 0, .ref (M 12), .ref (M 13), .ref (M 14), .ref (M 15), .ref (M 16), .ref (M 17), .ref (M 18), .ref (M 19), .int 0, .int 0, .ref (M 20), .ref (M 21), .int 0]))) H locs := h
  rw [hu_id km0] at h
  refine lv_aload_n hx hb dX11_kernel_5 rfl (lv_at hl 0 rfl) ?_
  refine lv_iload_n hx hb dX11_kernel_6 rfl (lv_at hl 1 rfl) ?_
  refine k_i (r_V C h hl (As := [.int p0]) (rest := []) (c_X11_isSet l D G b0 f M ⟨km0, km1, km2, km3, km4, km5⟩ p0) km0 (Cn := RX11) (T := TX11) (N := 32) rfl rfl mk_X11_isSet w_1624 w_1626 w_51 w_1627 ⟨Nat.le_of_ble_eq_true rfl, Nat.le_of_ble_eq_true rfl⟩ rfl (Nat.le_of_ble_eq_true rfl) ⟨Nat.le_of_ble_eq_true rfl, Nat.le_of_ble_eq_true rfl⟩ rfl dX11_kernel_7) h (fun r_335 f_336 H locs p_337 h => ?_)
  obtain ⟨e_, rfl⟩ := p_337
  subst e_
  refine lv_if_eq (tgt := 21) hx hb dX11_kernel_10 (by decide) (fun c_338 => ?_) (fun c_338 => ?_)
  · refine lv_iconst (v := -1) hx hb dX11_kernel_21 (by decide) ?_
    exact q_iret C h hr (rfl) (Nat.le_of_ble_eq_true rfl) (Nat.le_of_ble_eq_true rfl) dX11_kernel_22
  · exact absurd c_338 (by decide)
set_option maxRecDepth 100000 in
set_option maxHeartbeats 4000000 in
theorem c_X11_turned (l : Launch) (D : va_G) (G : Nat → Nat) (b0 : Nat) (f : hM) (M : Nat → Nat) (hM : mw G f M) (p0 : Int32) (p1 : Int32) (p2 : Int32) (p3 : Int32) : mI l yX11_turned cX11_turned 5 (.int) { frames := 2, cells := 0, slots := 0, locals := 46 } D G b0 f [.ref (M 0), .int p0, .int p1, .int p2, .int p3] (fun r f1 => (-1 : Int32) = r) := by
  refine met_of (own := RX11) (by decide) rfl (Nat.le_of_ble_eq_true rfl) ?_
  intro p e s m below meth c ls C hr hini hl h
  have hl : lv_has ls 5 [(0, .ref (M 0)), (1, .int p0), (2, .int p1), (3, .int p2), (4, .int p3)] := hl
  obtain ⟨hx, hb, hml, hown, hts, hE0, hlk⟩ := id C
  obtain ⟨km0, km1, km2, km3, km4, km5⟩ := hM
  refine lv_aload_n hx hb dX11_turned_0 rfl (lv_at hl 0 rfl) ?_
  refine lv_iconst (v := 0) hx hb dX11_turned_1 (by decide) ?_
  refine q_put C h km0 flw_X11_75 (Or.inr ⟨_, _, _, rfl, rfl⟩) (v := .int 0) rfl rfl (Nat.le_of_ble_eq_true rfl) dX11_turned_2 (fun H locs h => ?_)
  have h : hw D b0 s.heap (hu f (M 0) (.inr (12, [.int 0, .ref (M 1), .int 0, .int 0, .int 0, .ref (M 2), .ref (M 3), .ref (M 4), .ref (M 5), .ref (M 6), .int 0, .int 0, .ref (M 7), .ref (M 8), .int 0, .ref (M 9), .ref (M 10), .ref (M 11), .long 0, .ref (M 12), .ref (M 13), .ref (M 14), .ref (M 15), .ref (M 16), .ref (M 17), .ref (M 18), .ref (M 19), .int 0, .int 0, .ref (M 20), .ref (M 21), .int 0]))) H locs := h
  rw [hu_id km0] at h
  refine lv_aload_n hx hb dX11_turned_5 rfl (lv_at hl 0 rfl) ?_
  refine lv_iload_n hx hb dX11_turned_6 rfl (lv_at hl 1 rfl) ?_
  refine k_i (r_V C h hl (As := [.int p0]) (rest := []) (c_X11_isSet l D G b0 f M ⟨km0, km1, km2, km3, km4, km5⟩ p0) km0 (Cn := RX11) (T := TX11) (N := 32) rfl rfl mk_X11_isSet w_1624 w_1626 w_51 w_1627 ⟨Nat.le_of_ble_eq_true rfl, Nat.le_of_ble_eq_true rfl⟩ rfl (Nat.le_of_ble_eq_true rfl) ⟨Nat.le_of_ble_eq_true rfl, Nat.le_of_ble_eq_true rfl⟩ rfl dX11_turned_7) h (fun r_339 f_340 H locs p_341 h => ?_)
  obtain ⟨e_, rfl⟩ := p_341
  subst e_
  refine lv_if_eq (tgt := 44) hx hb dX11_turned_10 (by decide) (fun c_342 => ?_) (fun c_342 => ?_)
  · refine lv_iconst (v := -1) hx hb dX11_turned_44 (by decide) ?_
    exact q_iret C h hr (rfl) (Nat.le_of_ble_eq_true rfl) (Nat.le_of_ble_eq_true rfl) dX11_turned_45
  · exact absurd c_342 (by decide)
set_option maxRecDepth 100000 in
set_option maxHeartbeats 4000000 in
theorem c_X11_orbit (l : Launch) (D : va_G) (G : Nat → Nat) (b0 : Nat) (f : hM) (M : Nat → Nat) (hM : mw G f M) (p0 : Int32) (p1 : Int32) (p2 : Int32) (p3 : Int32) (p4 : Int32) : mI l yX11_orbit cX11_orbit 7 (.int) { frames := 2, cells := 0, slots := 0, locals := 46 } D G b0 f [.ref (M 0), .int p0, .int p1, .int p2, .int p3, .int p4] (fun r f1 => (-2 : Int32) = r) := by
  refine met_of (own := RX11) (by decide) rfl (Nat.le_of_ble_eq_true rfl) ?_
  intro p e s m below meth c ls C hr hini hl h
  have hl : lv_has ls 7 [(0, .ref (M 0)), (1, .int p0), (2, .int p1), (3, .int p2), (4, .int p3), (5, .int p4)] := hl
  obtain ⟨hx, hb, hml, hown, hts, hE0, hlk⟩ := id C
  obtain ⟨km0, km1, km2, km3, km4, km5⟩ := hM
  refine lv_aload_n hx hb dX11_orbit_0 rfl (lv_at hl 0 rfl) ?_
  refine lv_iconst (v := 0) hx hb dX11_orbit_1 (by decide) ?_
  refine q_put C h km0 flw_X11_75 (Or.inr ⟨_, _, _, rfl, rfl⟩) (v := .int 0) rfl rfl (Nat.le_of_ble_eq_true rfl) dX11_orbit_2 (fun H locs h => ?_)
  have h : hw D b0 s.heap (hu f (M 0) (.inr (12, [.int 0, .ref (M 1), .int 0, .int 0, .int 0, .ref (M 2), .ref (M 3), .ref (M 4), .ref (M 5), .ref (M 6), .int 0, .int 0, .ref (M 7), .ref (M 8), .int 0, .ref (M 9), .ref (M 10), .ref (M 11), .long 0, .ref (M 12), .ref (M 13), .ref (M 14), .ref (M 15), .ref (M 16), .ref (M 17), .ref (M 18), .ref (M 19), .int 0, .int 0, .ref (M 20), .ref (M 21), .int 0]))) H locs := h
  rw [hu_id km0] at h
  refine lv_aload_n hx hb dX11_orbit_5 rfl (lv_at hl 0 rfl) ?_
  refine lv_iload_n hx hb dX11_orbit_6 rfl (lv_at hl 1 rfl) ?_
  refine k_i (r_V C h hl (As := [.int p0]) (rest := []) (c_X11_isSet l D G b0 f M ⟨km0, km1, km2, km3, km4, km5⟩ p0) km0 (Cn := RX11) (T := TX11) (N := 32) rfl rfl mk_X11_isSet w_1624 w_1626 w_51 w_1627 ⟨Nat.le_of_ble_eq_true rfl, Nat.le_of_ble_eq_true rfl⟩ rfl (Nat.le_of_ble_eq_true rfl) ⟨Nat.le_of_ble_eq_true rfl, Nat.le_of_ble_eq_true rfl⟩ rfl dX11_orbit_7) h (fun r_343 f_344 H locs p_345 h => ?_)
  obtain ⟨e_, rfl⟩ := p_345
  subst e_
  refine lv_if_eq (tgt := 44) hx hb dX11_orbit_10 (by decide) (fun c_346 => ?_) (fun c_346 => ?_)
  · refine lv_bipush (v := -2) hx hb dX11_orbit_44 (by decide) ?_
    exact q_iret C h hr (rfl) (Nat.le_of_ble_eq_true rfl) (Nat.le_of_ble_eq_true rfl) dX11_orbit_46
  · exact absurd c_346 (by decide)
set_option maxRecDepth 100000 in
set_option maxHeartbeats 4000000 in
theorem c_X11_group (l : Launch) (D : va_G) (G : Nat → Nat) (b0 : Nat) (f : hM) (M : Nat → Nat) (hM : mw G f M) (p0 : Int32) : mI l yX11_group cX11_group 2 (.int) { frames := 2, cells := 0, slots := 0, locals := 46 } D G b0 f [.ref (M 0), .int p0] (fun r f1 => (-2 : Int32) = r) := by
  refine met_of (own := RX11) (by decide) rfl (Nat.le_of_ble_eq_true rfl) ?_
  intro p e s m below meth c ls C hr hini hl h
  have hl : lv_has ls 2 [(0, .ref (M 0)), (1, .int p0)] := hl
  obtain ⟨hx, hb, hml, hown, hts, hE0, hlk⟩ := id C
  obtain ⟨km0, km1, km2, km3, km4, km5⟩ := hM
  refine lv_aload_n hx hb dX11_group_0 rfl (lv_at hl 0 rfl) ?_
  refine lv_iconst (v := 0) hx hb dX11_group_1 (by decide) ?_
  refine q_put C h km0 flw_X11_75 (Or.inr ⟨_, _, _, rfl, rfl⟩) (v := .int 0) rfl rfl (Nat.le_of_ble_eq_true rfl) dX11_group_2 (fun H locs h => ?_)
  have h : hw D b0 s.heap (hu f (M 0) (.inr (12, [.int 0, .ref (M 1), .int 0, .int 0, .int 0, .ref (M 2), .ref (M 3), .ref (M 4), .ref (M 5), .ref (M 6), .int 0, .int 0, .ref (M 7), .ref (M 8), .int 0, .ref (M 9), .ref (M 10), .ref (M 11), .long 0, .ref (M 12), .ref (M 13), .ref (M 14), .ref (M 15), .ref (M 16), .ref (M 17), .ref (M 18), .ref (M 19), .int 0, .int 0, .ref (M 20), .ref (M 21), .int 0]))) H locs := h
  rw [hu_id km0] at h
  refine lv_aload_n hx hb dX11_group_5 rfl (lv_at hl 0 rfl) ?_
  refine lv_iload_n hx hb dX11_group_6 rfl (lv_at hl 1 rfl) ?_
  refine k_i (r_V C h hl (As := [.int p0]) (rest := []) (c_X11_isSet l D G b0 f M ⟨km0, km1, km2, km3, km4, km5⟩ p0) km0 (Cn := RX11) (T := TX11) (N := 32) rfl rfl mk_X11_isSet w_1624 w_1626 w_51 w_1627 ⟨Nat.le_of_ble_eq_true rfl, Nat.le_of_ble_eq_true rfl⟩ rfl (Nat.le_of_ble_eq_true rfl) ⟨Nat.le_of_ble_eq_true rfl, Nat.le_of_ble_eq_true rfl⟩ rfl dX11_group_7) h (fun r_347 f_348 H locs p_349 h => ?_)
  obtain ⟨e_, rfl⟩ := p_349
  subst e_
  refine lv_if_eq (tgt := 21) hx hb dX11_group_10 (by decide) (fun c_350 => ?_) (fun c_350 => ?_)
  · refine lv_bipush (v := -2) hx hb dX11_group_21 (by decide) ?_
    exact q_iret C h hr (rfl) (Nat.le_of_ble_eq_true rfl) (Nat.le_of_ble_eq_true rfl) dX11_group_23
  · exact absurd c_350 (by decide)
set_option maxRecDepth 100000 in
set_option maxHeartbeats 4000000 in
theorem c_X11_sum (l : Launch) (D : va_G) (G : Nat → Nat) (b0 : Nat) (f : hM) (M : Nat → Nat) (hM : mw G f M) (p0 : Int32) (p1 : Int32) (p2 : Int32) : mI l yX11_sum cX11_sum 10 (.int) { frames := 2, cells := 0, slots := 0, locals := 46 } D G b0 f [.ref (M 0), .int p0, .int p1, .int p2] (fun r f1 => (-2 : Int32) = r) := by
  refine met_of (own := RX11) (by decide) rfl (Nat.le_of_ble_eq_true rfl) ?_
  intro p e s m below meth c ls C hr hini hl h
  have hl : lv_has ls 10 [(0, .ref (M 0)), (1, .int p0), (2, .int p1), (3, .int p2)] := hl
  obtain ⟨hx, hb, hml, hown, hts, hE0, hlk⟩ := id C
  obtain ⟨km0, km1, km2, km3, km4, km5⟩ := hM
  refine lv_aload_n hx hb dX11_sum_0 rfl (lv_at hl 0 rfl) ?_
  refine lv_iconst (v := 0) hx hb dX11_sum_1 (by decide) ?_
  refine q_put C h km0 flw_X11_75 (Or.inr ⟨_, _, _, rfl, rfl⟩) (v := .int 0) rfl rfl (Nat.le_of_ble_eq_true rfl) dX11_sum_2 (fun H locs h => ?_)
  have h : hw D b0 s.heap (hu f (M 0) (.inr (12, [.int 0, .ref (M 1), .int 0, .int 0, .int 0, .ref (M 2), .ref (M 3), .ref (M 4), .ref (M 5), .ref (M 6), .int 0, .int 0, .ref (M 7), .ref (M 8), .int 0, .ref (M 9), .ref (M 10), .ref (M 11), .long 0, .ref (M 12), .ref (M 13), .ref (M 14), .ref (M 15), .ref (M 16), .ref (M 17), .ref (M 18), .ref (M 19), .int 0, .int 0, .ref (M 20), .ref (M 21), .int 0]))) H locs := h
  rw [hu_id km0] at h
  refine lv_aload_n hx hb dX11_sum_5 rfl (lv_at hl 0 rfl) ?_
  refine lv_iload_n hx hb dX11_sum_6 rfl (lv_at hl 1 rfl) ?_
  refine k_i (r_V C h hl (As := [.int p0]) (rest := []) (c_X11_isSet l D G b0 f M ⟨km0, km1, km2, km3, km4, km5⟩ p0) km0 (Cn := RX11) (T := TX11) (N := 32) rfl rfl mk_X11_isSet w_1624 w_1626 w_51 w_1627 ⟨Nat.le_of_ble_eq_true rfl, Nat.le_of_ble_eq_true rfl⟩ rfl (Nat.le_of_ble_eq_true rfl) ⟨Nat.le_of_ble_eq_true rfl, Nat.le_of_ble_eq_true rfl⟩ rfl dX11_sum_7) h (fun r_351 f_352 H locs p_353 h => ?_)
  obtain ⟨e_, rfl⟩ := p_353
  subst e_
  refine lv_if_eq (tgt := 21) hx hb dX11_sum_10 (by decide) (fun c_354 => ?_) (fun c_354 => ?_)
  · refine lv_bipush (v := -2) hx hb dX11_sum_21 (by decide) ?_
    exact q_iret C h hr (rfl) (Nat.le_of_ble_eq_true rfl) (Nat.le_of_ble_eq_true rfl) dX11_sum_23
  · exact absurd c_354 (by decide)
set_option maxRecDepth 100000 in
set_option maxHeartbeats 4000000 in
theorem c_X11_noUse (l : Launch) (D : va_G) (G : Nat → Nat) (b0 : Nat) (f : hM) (M : Nat → Nat) (hM : mw G f M) (p0 : Int32) : mI l yX11_noUse cX11_noUse 7 (.int) { frames := 2, cells := 0, slots := 0, locals := 46 } D G b0 f [.ref (M 0), .int p0] (fun r f1 => (-1 : Int32) = r) := by
  refine met_of (own := RX11) (by decide) rfl (Nat.le_of_ble_eq_true rfl) ?_
  intro p e s m below meth c ls C hr hini hl h
  have hl : lv_has ls 7 [(0, .ref (M 0)), (1, .int p0)] := hl
  obtain ⟨hx, hb, hml, hown, hts, hE0, hlk⟩ := id C
  obtain ⟨km0, km1, km2, km3, km4, km5⟩ := hM
  refine lv_aload_n hx hb dX11_noUse_0 rfl (lv_at hl 0 rfl) ?_
  refine lv_iconst (v := 0) hx hb dX11_noUse_1 (by decide) ?_
  refine q_put C h km0 flw_X11_75 (Or.inr ⟨_, _, _, rfl, rfl⟩) (v := .int 0) rfl rfl (Nat.le_of_ble_eq_true rfl) dX11_noUse_2 (fun H locs h => ?_)
  have h : hw D b0 s.heap (hu f (M 0) (.inr (12, [.int 0, .ref (M 1), .int 0, .int 0, .int 0, .ref (M 2), .ref (M 3), .ref (M 4), .ref (M 5), .ref (M 6), .int 0, .int 0, .ref (M 7), .ref (M 8), .int 0, .ref (M 9), .ref (M 10), .ref (M 11), .long 0, .ref (M 12), .ref (M 13), .ref (M 14), .ref (M 15), .ref (M 16), .ref (M 17), .ref (M 18), .ref (M 19), .int 0, .int 0, .ref (M 20), .ref (M 21), .int 0]))) H locs := h
  rw [hu_id km0] at h
  refine lv_aload_n hx hb dX11_noUse_5 rfl (lv_at hl 0 rfl) ?_
  refine lv_iload_n hx hb dX11_noUse_6 rfl (lv_at hl 1 rfl) ?_
  refine k_i (r_V C h hl (As := [.int p0]) (rest := []) (c_X11_isSet l D G b0 f M ⟨km0, km1, km2, km3, km4, km5⟩ p0) km0 (Cn := RX11) (T := TX11) (N := 32) rfl rfl mk_X11_isSet w_1624 w_1626 w_51 w_1627 ⟨Nat.le_of_ble_eq_true rfl, Nat.le_of_ble_eq_true rfl⟩ rfl (Nat.le_of_ble_eq_true rfl) ⟨Nat.le_of_ble_eq_true rfl, Nat.le_of_ble_eq_true rfl⟩ rfl dX11_noUse_7) h (fun r_355 f_356 H locs p_357 h => ?_)
  obtain ⟨e_, rfl⟩ := p_357
  subst e_
  refine lv_if_ne (tgt := 15) hx hb dX11_noUse_10 (by decide) (fun c_358 => ?_) (fun c_358 => ?_)
  · exact absurd c_358 (by decide)
  · refine lv_iconst (v := -1) hx hb dX11_noUse_13 (by decide) ?_
    exact q_iret C h hr (rfl) (Nat.le_of_ble_eq_true rfl) (Nat.le_of_ble_eq_true rfl) dX11_noUse_14
set_option maxRecDepth 100000 in
set_option maxHeartbeats 4000000 in
theorem c_X11_enough (l : Launch) (D : va_G) (G : Nat → Nat) (b0 : Nat) (f : hM) (M : Nat → Nat) (hM : mw G f M) (p0 : Int32) : mI l yX11_enough cX11_enough 2 (.int) { frames := 2, cells := 0, slots := 0, locals := 46 } D G b0 f [.ref (M 0), .int p0] (fun r f1 => (-1 : Int32) = r) := by
  refine met_of (own := RX11) (by decide) rfl (Nat.le_of_ble_eq_true rfl) ?_
  intro p e s m below meth c ls C hr hini hl h
  have hl : lv_has ls 2 [(0, .ref (M 0)), (1, .int p0)] := hl
  obtain ⟨hx, hb, hml, hown, hts, hE0, hlk⟩ := id C
  obtain ⟨km0, km1, km2, km3, km4, km5⟩ := hM
  refine lv_aload_n hx hb dX11_enough_0 rfl (lv_at hl 0 rfl) ?_
  refine lv_iconst (v := 0) hx hb dX11_enough_1 (by decide) ?_
  refine q_put C h km0 flw_X11_75 (Or.inr ⟨_, _, _, rfl, rfl⟩) (v := .int 0) rfl rfl (Nat.le_of_ble_eq_true rfl) dX11_enough_2 (fun H locs h => ?_)
  have h : hw D b0 s.heap (hu f (M 0) (.inr (12, [.int 0, .ref (M 1), .int 0, .int 0, .int 0, .ref (M 2), .ref (M 3), .ref (M 4), .ref (M 5), .ref (M 6), .int 0, .int 0, .ref (M 7), .ref (M 8), .int 0, .ref (M 9), .ref (M 10), .ref (M 11), .long 0, .ref (M 12), .ref (M 13), .ref (M 14), .ref (M 15), .ref (M 16), .ref (M 17), .ref (M 18), .ref (M 19), .int 0, .int 0, .ref (M 20), .ref (M 21), .int 0]))) H locs := h
  rw [hu_id km0] at h
  refine lv_aload_n hx hb dX11_enough_5 rfl (lv_at hl 0 rfl) ?_
  refine lv_iload_n hx hb dX11_enough_6 rfl (lv_at hl 1 rfl) ?_
  refine k_i (r_V C h hl (As := [.int p0]) (rest := []) (c_X11_isSet l D G b0 f M ⟨km0, km1, km2, km3, km4, km5⟩ p0) km0 (Cn := RX11) (T := TX11) (N := 32) rfl rfl mk_X11_isSet w_1624 w_1626 w_51 w_1627 ⟨Nat.le_of_ble_eq_true rfl, Nat.le_of_ble_eq_true rfl⟩ rfl (Nat.le_of_ble_eq_true rfl) ⟨Nat.le_of_ble_eq_true rfl, Nat.le_of_ble_eq_true rfl⟩ rfl dX11_enough_7) h (fun r_359 f_360 H locs p_361 h => ?_)
  obtain ⟨e_, rfl⟩ := p_361
  subst e_
  refine lv_if_eq (tgt := 45) hx hb dX11_enough_10 (by decide) (fun c_362 => ?_) (fun c_362 => ?_)
  · refine lv_iconst (v := -1) hx hb dX11_enough_45 (by decide) ?_
    exact q_iret C h hr (rfl) (Nat.le_of_ble_eq_true rfl) (Nat.le_of_ble_eq_true rfl) dX11_enough_46
  · exact absurd c_362 (by decide)
set_option maxRecDepth 100000 in
set_option maxHeartbeats 4000000 in
theorem c_X11_alike (l : Launch) (D : va_G) (G : Nat → Nat) (b0 : Nat) (f : hM) (M : Nat → Nat) (hM : mw G f M) (p0 : Int32) : mI l yX11_alike cX11_alike 3 (.int) { frames := 2, cells := 0, slots := 0, locals := 46 } D G b0 f [.ref (M 0), .int p0] (fun r f1 => (-1 : Int32) = r) := by
  refine met_of (own := RX11) (by decide) rfl (Nat.le_of_ble_eq_true rfl) ?_
  intro p e s m below meth c ls C hr hini hl h
  have hl : lv_has ls 3 [(0, .ref (M 0)), (1, .int p0)] := hl
  obtain ⟨hx, hb, hml, hown, hts, hE0, hlk⟩ := id C
  obtain ⟨km0, km1, km2, km3, km4, km5⟩ := hM
  refine lv_aload_n hx hb dX11_alike_0 rfl (lv_at hl 0 rfl) ?_
  refine lv_iconst (v := 0) hx hb dX11_alike_1 (by decide) ?_
  refine q_put C h km0 flw_X11_75 (Or.inr ⟨_, _, _, rfl, rfl⟩) (v := .int 0) rfl rfl (Nat.le_of_ble_eq_true rfl) dX11_alike_2 (fun H locs h => ?_)
  have h : hw D b0 s.heap (hu f (M 0) (.inr (12, [.int 0, .ref (M 1), .int 0, .int 0, .int 0, .ref (M 2), .ref (M 3), .ref (M 4), .ref (M 5), .ref (M 6), .int 0, .int 0, .ref (M 7), .ref (M 8), .int 0, .ref (M 9), .ref (M 10), .ref (M 11), .long 0, .ref (M 12), .ref (M 13), .ref (M 14), .ref (M 15), .ref (M 16), .ref (M 17), .ref (M 18), .ref (M 19), .int 0, .int 0, .ref (M 20), .ref (M 21), .int 0]))) H locs := h
  rw [hu_id km0] at h
  refine lv_aload_n hx hb dX11_alike_5 rfl (lv_at hl 0 rfl) ?_
  refine lv_iload_n hx hb dX11_alike_6 rfl (lv_at hl 1 rfl) ?_
  refine k_i (r_V C h hl (As := [.int p0]) (rest := []) (c_X11_isSet l D G b0 f M ⟨km0, km1, km2, km3, km4, km5⟩ p0) km0 (Cn := RX11) (T := TX11) (N := 32) rfl rfl mk_X11_isSet w_1624 w_1626 w_51 w_1627 ⟨Nat.le_of_ble_eq_true rfl, Nat.le_of_ble_eq_true rfl⟩ rfl (Nat.le_of_ble_eq_true rfl) ⟨Nat.le_of_ble_eq_true rfl, Nat.le_of_ble_eq_true rfl⟩ rfl dX11_alike_7) h (fun r_363 f_364 H locs p_365 h => ?_)
  obtain ⟨e_, rfl⟩ := p_365
  subst e_
  refine lv_if_ne (tgt := 15) hx hb dX11_alike_10 (by decide) (fun c_366 => ?_) (fun c_366 => ?_)
  · exact absurd c_366 (by decide)
  · refine lv_iconst (v := -1) hx hb dX11_alike_13 (by decide) ?_
    exact q_iret C h hr (rfl) (Nat.le_of_ble_eq_true rfl) (Nat.le_of_ble_eq_true rfl) dX11_alike_14
set_option maxRecDepth 100000 in
set_option maxHeartbeats 4000000 in
theorem c_X11_recurrence (l : Launch) (D : va_G) (G : Nat → Nat) (b0 : Nat) (f : hM) (M : Nat → Nat) (hM : mw G f M) (p0 : Int32) (p1 : Int32) (p2 : Int32) (p3 : Int32) (p4 : Int32) (p5 : Int32) : mI l yX11_recurrence cX11_recurrence 7 (.int) { frames := 4, cells := 0, slots := 0, locals := 98 } D G b0 f [.ref (M 0), .int p0, .int p1, .int p2, .int p3, .int p4, .int p5] (fun r f1 => (-1000000 : Int32) = r) := by
  refine met_of (own := RX11) (by decide) rfl (Nat.le_of_ble_eq_true rfl) ?_
  intro p e s m below meth c ls C hr hini hl h
  have hl : lv_has ls 7 [(0, .ref (M 0)), (1, .int p0), (2, .int p1), (3, .int p2), (4, .int p3), (5, .int p4), (6, .int p5)] := hl
  obtain ⟨hx, hb, hml, hown, hts, hE0, hlk⟩ := id C
  obtain ⟨km0, km1, km2, km3, km4, km5⟩ := hM
  refine lv_aload_n hx hb dX11_recurrence_0 rfl (lv_at hl 0 rfl) ?_
  refine lv_iconst (v := 0) hx hb dX11_recurrence_1 (by decide) ?_
  refine q_put C h km0 flw_X11_75 (Or.inr ⟨_, _, _, rfl, rfl⟩) (v := .int 0) rfl rfl (Nat.le_of_ble_eq_true rfl) dX11_recurrence_2 (fun H locs h => ?_)
  have h : hw D b0 s.heap (hu f (M 0) (.inr (12, [.int 0, .ref (M 1), .int 0, .int 0, .int 0, .ref (M 2), .ref (M 3), .ref (M 4), .ref (M 5), .ref (M 6), .int 0, .int 0, .ref (M 7), .ref (M 8), .int 0, .ref (M 9), .ref (M 10), .ref (M 11), .long 0, .ref (M 12), .ref (M 13), .ref (M 14), .ref (M 15), .ref (M 16), .ref (M 17), .ref (M 18), .ref (M 19), .int 0, .int 0, .ref (M 20), .ref (M 21), .int 0]))) H locs := h
  rw [hu_id km0] at h
  refine lv_aload_n hx hb dX11_recurrence_5 rfl (lv_at hl 0 rfl) ?_
  refine lv_iload_n hx hb dX11_recurrence_6 rfl (lv_at hl 1 rfl) ?_
  refine lv_iload_n hx hb dX11_recurrence_7 rfl (lv_at hl 2 rfl) ?_
  refine lv_iconst (v := 0) hx hb dX11_recurrence_8 (by decide) ?_
  refine lv_iload_n hx hb dX11_recurrence_9 rfl (lv_at hl 3 rfl) ?_
  refine lv_iload hx hb dX11_recurrence_10 (lv_at hl 4 rfl) ?_
  refine lv_iload hx hb dX11_recurrence_12 (lv_at hl 5 rfl) ?_
  refine lv_iload hx hb dX11_recurrence_14 (lv_at hl 6 rfl) ?_
  refine k_i (r_V C h hl (As := [.int p0, .int p1, .int 0, .int p2, .int p3, .int p4, .int p5]) (rest := []) (c_X11_numberOf l D G b0 f M ⟨km0, km1, km2, km3, km4, km5⟩ p0 p1 0 p2 p3 p4 p5) km0 (Cn := RX11) (T := TX11) (N := 32) rfl rfl mk_X11_numberOf w_1936 w_1938 w_77 w_1939 ⟨Nat.le_of_ble_eq_true rfl, Nat.le_of_ble_eq_true rfl⟩ rfl (Nat.le_of_ble_eq_true rfl) ⟨Nat.le_of_ble_eq_true rfl, Nat.le_of_ble_eq_true rfl⟩ rfl dX11_recurrence_16) h (fun r_367 f_368 H locs p_369 h => ?_)
  subst p_369
  exact q_iret C h hr (rfl) (Nat.le_of_ble_eq_true rfl) (Nat.le_of_ble_eq_true rfl) dX11_recurrence_19
set_option maxRecDepth 100000 in
set_option maxHeartbeats 4000000 in
theorem c_X11_fails_ (l : Launch) (D : va_G) (G : Nat → Nat) (b0 : Nat) (f : hM) (M : Nat → Nat) (hM : mw G f M) (p0 : Int32) (p1 : Int32) (p2 : Int32) (p3 : Int32) : mI l yX11_fails_ cX11_fails_ 5 (.int) { frames := 4, cells := 0, slots := 0, locals := 96 } D G b0 f [.ref (M 0), .int p0, .int p1, .int p2, .int p3] (fun r f1 => (-1000000 : Int32) = r) := by
  refine met_of (own := RX11) (by decide) rfl (Nat.le_of_ble_eq_true rfl) ?_
  intro p e s m below meth c ls C hr hini hl h
  have hl : lv_has ls 5 [(0, .ref (M 0)), (1, .int p0), (2, .int p1), (3, .int p2), (4, .int p3)] := hl
  obtain ⟨hx, hb, hml, hown, hts, hE0, hlk⟩ := id C
  obtain ⟨km0, km1, km2, km3, km4, km5⟩ := hM
  refine lv_aload_n hx hb dX11_fails__0 rfl (lv_at hl 0 rfl) ?_
  refine lv_iconst (v := 0) hx hb dX11_fails__1 (by decide) ?_
  refine q_put C h km0 flw_X11_75 (Or.inr ⟨_, _, _, rfl, rfl⟩) (v := .int 0) rfl rfl (Nat.le_of_ble_eq_true rfl) dX11_fails__2 (fun H locs h => ?_)
  have h : hw D b0 s.heap (hu f (M 0) (.inr (12, [.int 0, .ref (M 1), .int 0, .int 0, .int 0, .ref (M 2), .ref (M 3), .ref (M 4), .ref (M 5), .ref (M 6), .int 0, .int 0, .ref (M 7), .ref (M 8), .int 0, .ref (M 9), .ref (M 10), .ref (M 11), .long 0, .ref (M 12), .ref (M 13), .ref (M 14), .ref (M 15), .ref (M 16), .ref (M 17), .ref (M 18), .ref (M 19), .int 0, .int 0, .ref (M 20), .ref (M 21), .int 0]))) H locs := h
  rw [hu_id km0] at h
  refine lv_aload_n hx hb dX11_fails__5 rfl (lv_at hl 0 rfl) ?_
  refine lv_iload_n hx hb dX11_fails__6 rfl (lv_at hl 1 rfl) ?_
  refine lv_iload_n hx hb dX11_fails__7 rfl (lv_at hl 2 rfl) ?_
  refine lv_iconst (v := 0) hx hb dX11_fails__8 (by decide) ?_
  refine lv_iload_n hx hb dX11_fails__9 rfl (lv_at hl 3 rfl) ?_
  refine lv_iload hx hb dX11_fails__10 (lv_at hl 4 rfl) ?_
  refine k_i (r_V C h hl (As := [.int p0, .int p1, .int 0, .int p2, .int p3]) (rest := []) (c_X11_failOf l D G b0 f M ⟨km0, km1, km2, km3, km4, km5⟩ p0 p1 0 p2 p3) km0 (Cn := RX11) (T := TX11) (N := 32) rfl rfl mk_X11_failOf w_1981 w_1983 w_86 w_1984 ⟨Nat.le_of_ble_eq_true rfl, Nat.le_of_ble_eq_true rfl⟩ rfl (Nat.le_of_ble_eq_true rfl) ⟨Nat.le_of_ble_eq_true rfl, Nat.le_of_ble_eq_true rfl⟩ rfl dX11_fails__12) h (fun r_370 f_371 H locs p_372 h => ?_)
  subst p_372
  exact q_iret C h hr (rfl) (Nat.le_of_ble_eq_true rfl) (Nat.le_of_ble_eq_true rfl) dX11_fails__15
set_option maxRecDepth 100000 in
set_option maxHeartbeats 4000000 in
theorem c_X11_equation (l : Launch) (D : va_G) (G : Nat → Nat) (b0 : Nat) (f : hM) (M : Nat → Nat) (hM : mw G f M) (p0 : Int32) (p1 : Int32) (p2 : Int32) (p3 : Int32) (p4 : Int32) (p5 : Int32) : mI l yX11_equation cX11_equation 7 (.int) { frames := 4, cells := 0, slots := 0, locals := 98 } D G b0 f [.ref (M 0), .int p0, .int p1, .int p2, .int p3, .int p4, .int p5] (fun r f1 => (-1000000 : Int32) = r) := by
  refine met_of (own := RX11) (by decide) rfl (Nat.le_of_ble_eq_true rfl) ?_
  intro p e s m below meth c ls C hr hini hl h
  have hl : lv_has ls 7 [(0, .ref (M 0)), (1, .int p0), (2, .int p1), (3, .int p2), (4, .int p3), (5, .int p4), (6, .int p5)] := hl
  obtain ⟨hx, hb, hml, hown, hts, hE0, hlk⟩ := id C
  obtain ⟨km0, km1, km2, km3, km4, km5⟩ := hM
  refine lv_aload_n hx hb dX11_equation_0 rfl (lv_at hl 0 rfl) ?_
  refine lv_iconst (v := 0) hx hb dX11_equation_1 (by decide) ?_
  refine q_put C h km0 flw_X11_75 (Or.inr ⟨_, _, _, rfl, rfl⟩) (v := .int 0) rfl rfl (Nat.le_of_ble_eq_true rfl) dX11_equation_2 (fun H locs h => ?_)
  have h : hw D b0 s.heap (hu f (M 0) (.inr (12, [.int 0, .ref (M 1), .int 0, .int 0, .int 0, .ref (M 2), .ref (M 3), .ref (M 4), .ref (M 5), .ref (M 6), .int 0, .int 0, .ref (M 7), .ref (M 8), .int 0, .ref (M 9), .ref (M 10), .ref (M 11), .long 0, .ref (M 12), .ref (M 13), .ref (M 14), .ref (M 15), .ref (M 16), .ref (M 17), .ref (M 18), .ref (M 19), .int 0, .int 0, .ref (M 20), .ref (M 21), .int 0]))) H locs := h
  rw [hu_id km0] at h
  refine lv_aload_n hx hb dX11_equation_5 rfl (lv_at hl 0 rfl) ?_
  refine lv_iload_n hx hb dX11_equation_6 rfl (lv_at hl 1 rfl) ?_
  refine lv_iload_n hx hb dX11_equation_7 rfl (lv_at hl 2 rfl) ?_
  refine lv_iconst (v := 1) hx hb dX11_equation_8 (by decide) ?_
  refine lv_iload_n hx hb dX11_equation_9 rfl (lv_at hl 3 rfl) ?_
  refine lv_iload hx hb dX11_equation_10 (lv_at hl 4 rfl) ?_
  refine lv_iload hx hb dX11_equation_12 (lv_at hl 5 rfl) ?_
  refine lv_iload hx hb dX11_equation_14 (lv_at hl 6 rfl) ?_
  refine k_i (r_V C h hl (As := [.int p0, .int p1, .int 1, .int p2, .int p3, .int p4, .int p5]) (rest := []) (c_X11_numberOf l D G b0 f M ⟨km0, km1, km2, km3, km4, km5⟩ p0 p1 1 p2 p3 p4 p5) km0 (Cn := RX11) (T := TX11) (N := 32) rfl rfl mk_X11_numberOf w_1936 w_1938 w_77 w_1939 ⟨Nat.le_of_ble_eq_true rfl, Nat.le_of_ble_eq_true rfl⟩ rfl (Nat.le_of_ble_eq_true rfl) ⟨Nat.le_of_ble_eq_true rfl, Nat.le_of_ble_eq_true rfl⟩ rfl dX11_equation_16) h (fun r_373 f_374 H locs p_375 h => ?_)
  subst p_375
  exact q_iret C h hr (rfl) (Nat.le_of_ble_eq_true rfl) (Nat.le_of_ble_eq_true rfl) dX11_equation_19
set_option maxRecDepth 100000 in
set_option maxHeartbeats 4000000 in
theorem c_X11_breaks (l : Launch) (D : va_G) (G : Nat → Nat) (b0 : Nat) (f : hM) (M : Nat → Nat) (hM : mw G f M) (p0 : Int32) (p1 : Int32) (p2 : Int32) (p3 : Int32) : mI l yX11_breaks cX11_breaks 5 (.int) { frames := 4, cells := 0, slots := 0, locals := 96 } D G b0 f [.ref (M 0), .int p0, .int p1, .int p2, .int p3] (fun r f1 => (-1000000 : Int32) = r) := by
  refine met_of (own := RX11) (by decide) rfl (Nat.le_of_ble_eq_true rfl) ?_
  intro p e s m below meth c ls C hr hini hl h
  have hl : lv_has ls 5 [(0, .ref (M 0)), (1, .int p0), (2, .int p1), (3, .int p2), (4, .int p3)] := hl
  obtain ⟨hx, hb, hml, hown, hts, hE0, hlk⟩ := id C
  obtain ⟨km0, km1, km2, km3, km4, km5⟩ := hM
  refine lv_aload_n hx hb dX11_breaks_0 rfl (lv_at hl 0 rfl) ?_
  refine lv_iconst (v := 0) hx hb dX11_breaks_1 (by decide) ?_
  refine q_put C h km0 flw_X11_75 (Or.inr ⟨_, _, _, rfl, rfl⟩) (v := .int 0) rfl rfl (Nat.le_of_ble_eq_true rfl) dX11_breaks_2 (fun H locs h => ?_)
  have h : hw D b0 s.heap (hu f (M 0) (.inr (12, [.int 0, .ref (M 1), .int 0, .int 0, .int 0, .ref (M 2), .ref (M 3), .ref (M 4), .ref (M 5), .ref (M 6), .int 0, .int 0, .ref (M 7), .ref (M 8), .int 0, .ref (M 9), .ref (M 10), .ref (M 11), .long 0, .ref (M 12), .ref (M 13), .ref (M 14), .ref (M 15), .ref (M 16), .ref (M 17), .ref (M 18), .ref (M 19), .int 0, .int 0, .ref (M 20), .ref (M 21), .int 0]))) H locs := h
  rw [hu_id km0] at h
  refine lv_aload_n hx hb dX11_breaks_5 rfl (lv_at hl 0 rfl) ?_
  refine lv_iload_n hx hb dX11_breaks_6 rfl (lv_at hl 1 rfl) ?_
  refine lv_iload_n hx hb dX11_breaks_7 rfl (lv_at hl 2 rfl) ?_
  refine lv_iconst (v := 1) hx hb dX11_breaks_8 (by decide) ?_
  refine lv_iload_n hx hb dX11_breaks_9 rfl (lv_at hl 3 rfl) ?_
  refine lv_iload hx hb dX11_breaks_10 (lv_at hl 4 rfl) ?_
  refine k_i (r_V C h hl (As := [.int p0, .int p1, .int 1, .int p2, .int p3]) (rest := []) (c_X11_failOf l D G b0 f M ⟨km0, km1, km2, km3, km4, km5⟩ p0 p1 1 p2 p3) km0 (Cn := RX11) (T := TX11) (N := 32) rfl rfl mk_X11_failOf w_1981 w_1983 w_86 w_1984 ⟨Nat.le_of_ble_eq_true rfl, Nat.le_of_ble_eq_true rfl⟩ rfl (Nat.le_of_ble_eq_true rfl) ⟨Nat.le_of_ble_eq_true rfl, Nat.le_of_ble_eq_true rfl⟩ rfl dX11_breaks_12) h (fun r_376 f_377 H locs p_378 h => ?_)
  subst p_378
  exact q_iret C h hr (rfl) (Nat.le_of_ble_eq_true rfl) (Nat.le_of_ble_eq_true rfl) dX11_breaks_15
set_option maxRecDepth 100000 in
set_option maxHeartbeats 4000000 in
theorem c_X11_least (l : Launch) (D : va_G) (G : Nat → Nat) (b0 : Nat) (f : hM) (M : Nat → Nat) (hM : mw G f M) (p0 : Int32) (p1 : Int32) (p2 : Int32) : mI l yX11_least cX11_least 9 (.int) { frames := 2, cells := 0, slots := 0, locals := 46 } D G b0 f [.ref (M 0), .int p0, .int p1, .int p2] (fun r f1 => (-1000000 : Int32) = r) := by
  refine met_of (own := RX11) (by decide) rfl (Nat.le_of_ble_eq_true rfl) ?_
  intro p e s m below meth c ls C hr hini hl h
  have hl : lv_has ls 9 [(0, .ref (M 0)), (1, .int p0), (2, .int p1), (3, .int p2)] := hl
  obtain ⟨hx, hb, hml, hown, hts, hE0, hlk⟩ := id C
  obtain ⟨km0, km1, km2, km3, km4, km5⟩ := hM
  refine lv_aload_n hx hb dX11_least_0 rfl (lv_at hl 0 rfl) ?_
  refine lv_iconst (v := 0) hx hb dX11_least_1 (by decide) ?_
  refine q_put C h km0 flw_X11_75 (Or.inr ⟨_, _, _, rfl, rfl⟩) (v := .int 0) rfl rfl (Nat.le_of_ble_eq_true rfl) dX11_least_2 (fun H locs h => ?_)
  have h : hw D b0 s.heap (hu f (M 0) (.inr (12, [.int 0, .ref (M 1), .int 0, .int 0, .int 0, .ref (M 2), .ref (M 3), .ref (M 4), .ref (M 5), .ref (M 6), .int 0, .int 0, .ref (M 7), .ref (M 8), .int 0, .ref (M 9), .ref (M 10), .ref (M 11), .long 0, .ref (M 12), .ref (M 13), .ref (M 14), .ref (M 15), .ref (M 16), .ref (M 17), .ref (M 18), .ref (M 19), .int 0, .int 0, .ref (M 20), .ref (M 21), .int 0]))) H locs := h
  rw [hu_id km0] at h
  refine lv_aload_n hx hb dX11_least_5 rfl (lv_at hl 0 rfl) ?_
  refine lv_iload_n hx hb dX11_least_6 rfl (lv_at hl 1 rfl) ?_
  refine k_i (r_V C h hl (As := [.int p0]) (rest := []) (c_X11_isSet l D G b0 f M ⟨km0, km1, km2, km3, km4, km5⟩ p0) km0 (Cn := RX11) (T := TX11) (N := 32) rfl rfl mk_X11_isSet w_1624 w_1626 w_51 w_1627 ⟨Nat.le_of_ble_eq_true rfl, Nat.le_of_ble_eq_true rfl⟩ rfl (Nat.le_of_ble_eq_true rfl) ⟨Nat.le_of_ble_eq_true rfl, Nat.le_of_ble_eq_true rfl⟩ rfl dX11_least_7) h (fun r_379 f_380 H locs p_381 h => ?_)
  obtain ⟨e_, rfl⟩ := p_381
  subst e_
  refine lv_if_eq (tgt := 35) hx hb dX11_least_10 (by decide) (fun c_382 => ?_) (fun c_382 => ?_)
  · refine lv_ldcw (v := -1000000) hx hb hown (hts _ w_1791) dX11_least_35 ?_
    exact q_iret C h hr (rfl) (Nat.le_of_ble_eq_true rfl) (Nat.le_of_ble_eq_true rfl) dX11_least_38
  · exact absurd c_382 (by decide)
set_option maxRecDepth 100000 in
set_option maxHeartbeats 4000000 in
theorem c_X11_written (l : Launch) (D : va_G) (G : Nat → Nat) (b0 : Nat) (f : hM) (M : Nat → Nat) (hM : mw G f M) (p0 : Int32) (p1 : Int32) : mI l yX11_written cX11_written 3 (.int) { frames := 2, cells := 0, slots := 0, locals := 46 } D G b0 f [.ref (M 0), .int p0, .int p1] (fun r f1 => (-1 : Int32) = r) := by
  refine met_of (own := RX11) (by decide) rfl (Nat.le_of_ble_eq_true rfl) ?_
  intro p e s m below meth c ls C hr hini hl h
  have hl : lv_has ls 3 [(0, .ref (M 0)), (1, .int p0), (2, .int p1)] := hl
  obtain ⟨hx, hb, hml, hown, hts, hE0, hlk⟩ := id C
  obtain ⟨km0, km1, km2, km3, km4, km5⟩ := hM
  refine lv_aload_n hx hb dX11_written_0 rfl (lv_at hl 0 rfl) ?_
  refine lv_iconst (v := 0) hx hb dX11_written_1 (by decide) ?_
  refine q_put C h km0 flw_X11_75 (Or.inr ⟨_, _, _, rfl, rfl⟩) (v := .int 0) rfl rfl (Nat.le_of_ble_eq_true rfl) dX11_written_2 (fun H locs h => ?_)
  have h : hw D b0 s.heap (hu f (M 0) (.inr (12, [.int 0, .ref (M 1), .int 0, .int 0, .int 0, .ref (M 2), .ref (M 3), .ref (M 4), .ref (M 5), .ref (M 6), .int 0, .int 0, .ref (M 7), .ref (M 8), .int 0, .ref (M 9), .ref (M 10), .ref (M 11), .long 0, .ref (M 12), .ref (M 13), .ref (M 14), .ref (M 15), .ref (M 16), .ref (M 17), .ref (M 18), .ref (M 19), .int 0, .int 0, .ref (M 20), .ref (M 21), .int 0]))) H locs := h
  rw [hu_id km0] at h
  refine lv_aload_n hx hb dX11_written_5 rfl (lv_at hl 0 rfl) ?_
  refine lv_iload_n hx hb dX11_written_6 rfl (lv_at hl 1 rfl) ?_
  refine k_i (r_V C h hl (As := [.int p0]) (rest := []) (c_X11_isSet l D G b0 f M ⟨km0, km1, km2, km3, km4, km5⟩ p0) km0 (Cn := RX11) (T := TX11) (N := 32) rfl rfl mk_X11_isSet w_1624 w_1626 w_51 w_1627 ⟨Nat.le_of_ble_eq_true rfl, Nat.le_of_ble_eq_true rfl⟩ rfl (Nat.le_of_ble_eq_true rfl) ⟨Nat.le_of_ble_eq_true rfl, Nat.le_of_ble_eq_true rfl⟩ rfl dX11_written_7) h (fun r_383 f_384 H locs p_385 h => ?_)
  obtain ⟨e_, rfl⟩ := p_385
  subst e_
  refine lv_if_ne (tgt := 15) hx hb dX11_written_10 (by decide) (fun c_386 => ?_) (fun c_386 => ?_)
  · exact absurd c_386 (by decide)
  · refine lv_iconst (v := -1) hx hb dX11_written_13 (by decide) ?_
    exact q_iret C h hr (rfl) (Nat.le_of_ble_eq_true rfl) (Nat.le_of_ble_eq_true rfl) dX11_written_14
