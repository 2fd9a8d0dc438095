theorem dX10_drop_0 : decode cX10_drop 0 = .ok (.aload_n 0, 1) := by decide +kernel
theorem dX10_drop_1 : decode cX10_drop 1 = .ok (.getfield 19, 3) := by decide +kernel
theorem dX10_drop_4 : decode cX10_drop 4 = .ok (.iload_n 1, 1) := by decide +kernel
theorem dX10_drop_5 : decode cX10_drop 5 = .ok (.invokevirtual 110, 3) := by decide +kernel
theorem dX10_drop_8 : decode cX10_drop 8 = .ok (.ifnonnull 9, 3) := by decide +kernel
theorem dX10_drop_11 : decode cX10_drop 11 = .ok (.aload_n 0, 1) := by decide +kernel
theorem dX10_drop_12 : decode cX10_drop 12 = .ok (.iconst 0, 1) := by decide +kernel
theorem dX10_drop_13 : decode cX10_drop 13 = .ok (.invokevirtual 95, 3) := by decide +kernel
theorem w_519 : Cond.methodLink "QuarterWalks" 95 yX10_refuse ∈ wAll := wIn 519 (by decide +kernel) (by decide +kernel)
theorem w_8 : Cond.selects yX10_refuse.cls yX10_refuse yX10_refuse ∈ wAll := wIn 8 (by decide +kernel) (by decide +kernel)
theorem mk_X10_refuse : mk yX10_refuse 1 := ⟨by decide +kernel, w_96⟩
theorem w_521 : Cond.instanceMethod yX10_refuse ∈ wAll := wIn 521 (by decide +kernel) (by decide +kernel)
theorem w_522 : Cond.code yX10_refuse cX10_refuse 2 (some .int) ∈ wAll := wIn 522 (by decide +kernel) (by decide +kernel)
theorem dX10_drop_16 : decode cX10_drop 16 = .ok (.ireturn, 1) := by decide +kernel
theorem dX10_mirror_0 : decode cX10_mirror 0 = .ok (.aload_n 0, 1) := by decide +kernel
theorem dX10_mirror_1 : decode cX10_mirror 1 = .ok (.getfield 19, 3) := by decide +kernel
theorem dX10_mirror_4 : decode cX10_mirror 4 = .ok (.iload_n 1, 1) := by decide +kernel
theorem dX10_mirror_5 : decode cX10_mirror 5 = .ok (.invokevirtual 110, 3) := by decide +kernel
theorem dX10_mirror_8 : decode cX10_mirror 8 = .ok (.astore_n 2, 1) := by decide +kernel
theorem dX10_mirror_9 : decode cX10_mirror 9 = .ok (.aload_n 2, 1) := by decide +kernel
theorem dX10_mirror_10 : decode cX10_mirror 10 = .ok (.ifnonnull 11, 3) := by decide +kernel
theorem dX10_mirror_13 : decode cX10_mirror 13 = .ok (.aload_n 0, 1) := by decide +kernel
theorem dX10_mirror_14 : decode cX10_mirror 14 = .ok (.iconst 0, 1) := by decide +kernel
theorem dX10_mirror_15 : decode cX10_mirror 15 = .ok (.invokevirtual 95, 3) := by decide +kernel
theorem dX10_mirror_18 : decode cX10_mirror 18 = .ok (.goto 19, 3) := by decide +kernel
theorem dX10_mirror_37 : decode cX10_mirror 37 = .ok (.ireturn, 1) := by decide +kernel
theorem dX10_turn_0 : decode cX10_turn 0 = .ok (.aload_n 0, 1) := by decide +kernel
theorem dX10_turn_1 : decode cX10_turn 1 = .ok (.getfield 19, 3) := by decide +kernel
theorem dX10_turn_4 : decode cX10_turn 4 = .ok (.iload_n 1, 1) := by decide +kernel
theorem dX10_turn_5 : decode cX10_turn 5 = .ok (.invokevirtual 110, 3) := by decide +kernel
theorem dX10_turn_8 : decode cX10_turn 8 = .ok (.astore_n 2, 1) := by decide +kernel
theorem dX10_turn_9 : decode cX10_turn 9 = .ok (.aload_n 2, 1) := by decide +kernel
theorem dX10_turn_10 : decode cX10_turn 10 = .ok (.ifnonnull 11, 3) := by decide +kernel
theorem dX10_turn_13 : decode cX10_turn 13 = .ok (.aload_n 0, 1) := by decide +kernel
theorem dX10_turn_14 : decode cX10_turn 14 = .ok (.iconst 0, 1) := by decide +kernel
theorem dX10_turn_15 : decode cX10_turn 15 = .ok (.invokevirtual 95, 3) := by decide +kernel
theorem dX10_turn_18 : decode cX10_turn 18 = .ok (.goto 19, 3) := by decide +kernel
theorem dX10_turn_37 : decode cX10_turn 37 = .ok (.ireturn, 1) := by decide +kernel
theorem dX10_join_0 : decode cX10_join 0 = .ok (.aload_n 0, 1) := by decide +kernel
theorem dX10_join_1 : decode cX10_join 1 = .ok (.getfield 19, 3) := by decide +kernel
theorem dX10_join_4 : decode cX10_join 4 = .ok (.iload_n 1, 1) := by decide +kernel
theorem dX10_join_5 : decode cX10_join 5 = .ok (.invokevirtual 110, 3) := by decide +kernel
theorem dX10_join_8 : decode cX10_join 8 = .ok (.astore_n 3, 1) := by decide +kernel
theorem dX10_join_9 : decode cX10_join 9 = .ok (.aload_n 0, 1) := by decide +kernel
theorem dX10_join_10 : decode cX10_join 10 = .ok (.getfield 19, 3) := by decide +kernel
theorem dX10_join_13 : decode cX10_join 13 = .ok (.iload_n 2, 1) := by decide +kernel
theorem dX10_join_14 : decode cX10_join 14 = .ok (.invokevirtual 110, 3) := by decide +kernel
theorem dX10_join_17 : decode cX10_join 17 = .ok (.astore 4, 2) := by decide +kernel
theorem dX10_join_19 : decode cX10_join 19 = .ok (.aload_n 3, 1) := by decide +kernel
theorem dX10_join_20 : decode cX10_join 20 = .ok (.ifnull 8, 3) := by decide +kernel
theorem dX10_join_28 : decode cX10_join 28 = .ok (.aload_n 0, 1) := by decide +kernel
theorem dX10_join_29 : decode cX10_join 29 = .ok (.iconst 0, 1) := by decide +kernel
theorem dX10_join_30 : decode cX10_join 30 = .ok (.invokevirtual 95, 3) := by decide +kernel
theorem dX10_join_33 : decode cX10_join 33 = .ok (.ireturn, 1) := by decide +kernel
theorem dX10_scale_0 : decode cX10_scale 0 = .ok (.aload_n 0, 1) := by decide +kernel
theorem dX10_scale_1 : decode cX10_scale 1 = .ok (.getfield 19, 3) := by decide +kernel
theorem dX10_scale_4 : decode cX10_scale 4 = .ok (.iload_n 1, 1) := by decide +kernel
theorem dX10_scale_5 : decode cX10_scale 5 = .ok (.invokevirtual 110, 3) := by decide +kernel
theorem dX10_scale_8 : decode cX10_scale 8 = .ok (.astore_n 3, 1) := by decide +kernel
theorem dX10_scale_9 : decode cX10_scale 9 = .ok (.aload_n 3, 1) := by decide +kernel
theorem dX10_scale_10 : decode cX10_scale 10 = .ok (.ifnonnull 9, 3) := by decide +kernel
theorem dX10_scale_13 : decode cX10_scale 13 = .ok (.aload_n 0, 1) := by decide +kernel
theorem dX10_scale_14 : decode cX10_scale 14 = .ok (.iconst 0, 1) := by decide +kernel
theorem dX10_scale_15 : decode cX10_scale 15 = .ok (.invokevirtual 95, 3) := by decide +kernel
theorem dX10_scale_18 : decode cX10_scale 18 = .ok (.ireturn, 1) := by decide +kernel
theorem dX10_weigh_0 : decode cX10_weigh 0 = .ok (.aload_n 0, 1) := by decide +kernel
theorem dX10_weigh_1 : decode cX10_weigh 1 = .ok (.getfield 19, 3) := by decide +kernel
theorem dX10_weigh_4 : decode cX10_weigh 4 = .ok (.iload_n 1, 1) := by decide +kernel
theorem dX10_weigh_5 : decode cX10_weigh 5 = .ok (.invokevirtual 110, 3) := by decide +kernel
theorem dX10_weigh_8 : decode cX10_weigh 8 = .ok (.astore 4, 2) := by decide +kernel
theorem dX10_weigh_10 : decode cX10_weigh 10 = .ok (.aload 4, 2) := by decide +kernel
theorem dX10_weigh_12 : decode cX10_weigh 12 = .ok (.ifnonnull 9, 3) := by decide +kernel
theorem dX10_weigh_15 : decode cX10_weigh 15 = .ok (.aload_n 0, 1) := by decide +kernel
theorem dX10_weigh_16 : decode cX10_weigh 16 = .ok (.iconst 0, 1) := by decide +kernel
theorem dX10_weigh_17 : decode cX10_weigh 17 = .ok (.invokevirtual 95, 3) := by decide +kernel
theorem dX10_weigh_20 : decode cX10_weigh 20 = .ok (.ireturn, 1) := by decide +kernel
theorem dX10_start_0 : decode cX10_start 0 = .ok (.aload_n 0, 1) := by decide +kernel
theorem dX10_start_1 : decode cX10_start 1 = .ok (.getfield 19, 3) := by decide +kernel
theorem dX10_start_4 : decode cX10_start 4 = .ok (.iload_n 1, 1) := by decide +kernel
theorem dX10_start_5 : decode cX10_start 5 = .ok (.invokevirtual 110, 3) := by decide +kernel
theorem dX10_start_8 : decode cX10_start 8 = .ok (.astore 4, 2) := by decide +kernel
theorem dX10_start_10 : decode cX10_start 10 = .ok (.aload 4, 2) := by decide +kernel
theorem dX10_start_12 : decode cX10_start 12 = .ok (.ifnonnull 9, 3) := by decide +kernel
theorem dX10_start_15 : decode cX10_start 15 = .ok (.aload_n 0, 1) := by decide +kernel
theorem dX10_start_16 : decode cX10_start 16 = .ok (.iconst 0, 1) := by decide +kernel
theorem dX10_start_17 : decode cX10_start 17 = .ok (.invokevirtual 95, 3) := by decide +kernel
theorem dX10_start_20 : decode cX10_start 20 = .ok (.ireturn, 1) := by decide +kernel
theorem dX10_at_0 : decode cX10_at 0 = .ok (.aload_n 0, 1) := by decide +kernel
theorem dX10_at_1 : decode cX10_at 1 = .ok (.getfield 19, 3) := by decide +kernel
theorem dX10_at_4 : decode cX10_at 4 = .ok (.iload_n 2, 1) := by decide +kernel
theorem dX10_at_5 : decode cX10_at 5 = .ok (.invokevirtual 110, 3) := by decide +kernel
theorem dX10_at_8 : decode cX10_at 8 = .ok (.astore 6, 2) := by decide +kernel
theorem dX10_at_10 : decode cX10_at 10 = .ok (.aload 6, 2) := by decide +kernel
theorem dX10_at_12 : decode cX10_at 12 = .ok (.ifnull 29, 3) := by decide +kernel
theorem dX10_at_41 : decode cX10_at 41 = .ok (.iconst (-1), 1) := by decide +kernel
theorem dX10_at_42 : decode cX10_at 42 = .ok (.ireturn, 1) := by decide +kernel
theorem dX10_series_0 : decode cX10_series 0 = .ok (.aload_n 0, 1) := by decide +kernel
theorem dX10_series_1 : decode cX10_series 1 = .ok (.getfield 19, 3) := by decide +kernel
theorem dX10_series_4 : decode cX10_series 4 = .ok (.iload_n 1, 1) := by decide +kernel
theorem dX10_series_5 : decode cX10_series 5 = .ok (.invokevirtual 110, 3) := by decide +kernel
theorem dX10_series_8 : decode cX10_series 8 = .ok (.astore 4, 2) := by decide +kernel
theorem dX10_series_10 : decode cX10_series 10 = .ok (.aload 4, 2) := by decide +kernel
theorem dX10_series_12 : decode cX10_series 12 = .ok (.ifnull 17, 3) := by decide +kernel
theorem dX10_series_29 : decode cX10_series 29 = .ok (.iconst (-1), 1) := by decide +kernel
theorem dX10_series_30 : decode cX10_series 30 = .ok (.ireturn, 1) := by decide +kernel
theorem dX10_exact_0 : decode cX10_exact 0 = .ok (.aload_n 0, 1) := by decide +kernel
theorem dX10_exact_1 : decode cX10_exact 1 = .ok (.getfield 19, 3) := by decide +kernel
theorem dX10_exact_4 : decode cX10_exact 4 = .ok (.iload_n 1, 1) := by decide +kernel
theorem dX10_exact_5 : decode cX10_exact 5 = .ok (.invokevirtual 110, 3) := by decide +kernel
theorem dX10_exact_8 : decode cX10_exact 8 = .ok (.astore 5, 2) := by decide +kernel
theorem dX10_exact_10 : decode cX10_exact 10 = .ok (.aload 5, 2) := by decide +kernel
theorem dX10_exact_12 : decode cX10_exact 12 = .ok (.ifnull 31, 3) := by decide +kernel
theorem dX10_exact_43 : decode cX10_exact 43 = .ok (.ldc2_w 205, 3) := by decide +kernel
theorem w_757 : Cond.constantLong "QuarterWalks" 205 (-1) ∈ wAll := wIn 757 (by decide +kernel) (by decide +kernel)
theorem dX10_exact_46 : decode cX10_exact 46 = .ok (.lreturn, 1) := by decide +kernel
theorem dX10_bridge_0 : decode cX10_bridge 0 = .ok (.aload_n 0, 1) := by decide +kernel
theorem dX10_bridge_1 : decode cX10_bridge 1 = .ok (.getfield 19, 3) := by decide +kernel
theorem dX10_bridge_4 : decode cX10_bridge 4 = .ok (.iload_n 1, 1) := by decide +kernel
theorem dX10_bridge_5 : decode cX10_bridge 5 = .ok (.invokevirtual 110, 3) := by decide +kernel
theorem dX10_bridge_8 : decode cX10_bridge 8 = .ok (.astore 5, 2) := by decide +kernel
theorem dX10_bridge_10 : decode cX10_bridge 10 = .ok (.aload 5, 2) := by decide +kernel
theorem dX10_bridge_12 : decode cX10_bridge 12 = .ok (.ifnull 19, 3) := by decide +kernel
theorem dX10_bridge_31 : decode cX10_bridge 31 = .ok (.iconst (-1), 1) := by decide +kernel
theorem dX10_bridge_32 : decode cX10_bridge 32 = .ok (.ireturn, 1) := by decide +kernel
theorem dX10_reflected_0 : decode cX10_reflected 0 = .ok (.aload_n 0, 1) := by decide +kernel
theorem dX10_reflected_1 : decode cX10_reflected 1 = .ok (.getfield 19, 3) := by decide +kernel
theorem dX10_reflected_4 : decode cX10_reflected 4 = .ok (.iload_n 1, 1) := by decide +kernel
theorem dX10_reflected_5 : decode cX10_reflected 5 = .ok (.invokevirtual 110, 3) := by decide +kernel
theorem dX10_reflected_8 : decode cX10_reflected 8 = .ok (.astore 5, 2) := by decide +kernel
theorem dX10_reflected_10 : decode cX10_reflected 10 = .ok (.aload 5, 2) := by decide +kernel
theorem dX10_reflected_12 : decode cX10_reflected 12 = .ok (.ifnull 31, 3) := by decide +kernel
theorem dX10_reflected_43 : decode cX10_reflected 43 = .ok (.ldc 218, 2) := by decide +kernel
theorem w_772 : Cond.constant "QuarterWalks" 218 (-1000000) ∈ wAll := wIn 772 (by decide +kernel) (by decide +kernel)
theorem dX10_reflected_45 : decode cX10_reflected 45 = .ok (.ireturn, 1) := by decide +kernel
theorem dX10_rank_0 : decode cX10_rank 0 = .ok (.aload_n 0, 1) := by decide +kernel
theorem dX10_rank_1 : decode cX10_rank 1 = .ok (.getfield 19, 3) := by decide +kernel
theorem dX10_rank_4 : decode cX10_rank 4 = .ok (.iload_n 1, 1) := by decide +kernel
theorem dX10_rank_5 : decode cX10_rank 5 = .ok (.invokevirtual 110, 3) := by decide +kernel
theorem dX10_rank_8 : decode cX10_rank 8 = .ok (.astore_n 3, 1) := by decide +kernel
theorem dX10_rank_9 : decode cX10_rank 9 = .ok (.aload_n 3, 1) := by decide +kernel
theorem dX10_rank_10 : decode cX10_rank 10 = .ok (.ifnull 13, 3) := by decide +kernel
theorem dX10_rank_23 : decode cX10_rank 23 = .ok (.iconst (-1), 1) := by decide +kernel
theorem dX10_rank_24 : decode cX10_rank 24 = .ok (.ireturn, 1) := by decide +kernel
theorem dX10_ratio_0 : decode cX10_ratio 0 = .ok (.aload_n 0, 1) := by decide +kernel
theorem dX10_ratio_1 : decode cX10_ratio 1 = .ok (.getfield 19, 3) := by decide +kernel
theorem dX10_ratio_4 : decode cX10_ratio 4 = .ok (.iload_n 1, 1) := by decide +kernel
theorem dX10_ratio_5 : decode cX10_ratio 5 = .ok (.invokevirtual 110, 3) := by decide +kernel
theorem dX10_ratio_8 : decode cX10_ratio 8 = .ok (.astore 4, 2) := by decide +kernel
theorem dX10_ratio_10 : decode cX10_ratio 10 = .ok (.aload 4, 2) := by decide +kernel
theorem dX10_ratio_12 : decode cX10_ratio 12 = .ok (.ifnull 20, 3) := by decide +kernel
theorem dX10_ratio_32 : decode cX10_ratio 32 = .ok (.iconst (-1), 1) := by decide +kernel
theorem dX10_ratio_33 : decode cX10_ratio 33 = .ok (.ireturn, 1) := by decide +kernel
theorem dX10_hankel_0 : decode cX10_hankel 0 = .ok (.aload_n 0, 1) := by decide +kernel
theorem dX10_hankel_1 : decode cX10_hankel 1 = .ok (.getfield 19, 3) := by decide +kernel
theorem dX10_hankel_4 : decode cX10_hankel 4 = .ok (.iload_n 1, 1) := by decide +kernel
theorem dX10_hankel_5 : decode cX10_hankel 5 = .ok (.invokevirtual 110, 3) := by decide +kernel
theorem dX10_hankel_8 : decode cX10_hankel 8 = .ok (.astore 4, 2) := by decide +kernel
theorem dX10_hankel_10 : decode cX10_hankel 10 = .ok (.aload 4, 2) := by decide +kernel
theorem dX10_hankel_12 : decode cX10_hankel 12 = .ok (.ifnull 20, 3) := by decide +kernel
theorem dX10_hankel_32 : decode cX10_hankel 32 = .ok (.iconst (-1), 1) := by decide +kernel
theorem dX10_hankel_33 : decode cX10_hankel 33 = .ok (.ireturn, 1) := by decide +kernel
theorem dX10_convolved_0 : decode cX10_convolved 0 = .ok (.aload_n 0, 1) := by decide +kernel
theorem dX10_convolved_1 : decode cX10_convolved 1 = .ok (.getfield 19, 3) := by decide +kernel
theorem dX10_convolved_4 : decode cX10_convolved 4 = .ok (.iload_n 1, 1) := by decide +kernel
theorem dX10_convolved_5 : decode cX10_convolved 5 = .ok (.invokevirtual 110, 3) := by decide +kernel
theorem dX10_convolved_8 : decode cX10_convolved 8 = .ok (.astore 6, 2) := by decide +kernel
theorem dX10_convolved_10 : decode cX10_convolved 10 = .ok (.aload_n 0, 1) := by decide +kernel
theorem dX10_convolved_11 : decode cX10_convolved 11 = .ok (.getfield 19, 3) := by decide +kernel
theorem dX10_convolved_14 : decode cX10_convolved 14 = .ok (.iload_n 3, 1) := by decide +kernel
theorem dX10_convolved_15 : decode cX10_convolved 15 = .ok (.invokevirtual 110, 3) := by decide +kernel
theorem dX10_convolved_18 : decode cX10_convolved 18 = .ok (.astore 7, 2) := by decide +kernel
theorem dX10_convolved_20 : decode cX10_convolved 20 = .ok (.aload 6, 2) := by decide +kernel
theorem dX10_convolved_22 : decode cX10_convolved 22 = .ok (.ifnull 31, 3) := by decide +kernel
theorem dX10_convolved_53 : decode cX10_convolved 53 = .ok (.iconst (-1), 1) := by decide +kernel
theorem dX10_convolved_54 : decode cX10_convolved 54 = .ok (.ireturn, 1) := by decide +kernel
theorem dX10_out_0 : decode cX10_out 0 = .ok (.aload_n 0, 1) := by decide +kernel
theorem dX10_out_1 : decode cX10_out 1 = .ok (.getfield 19, 3) := by decide +kernel
theorem dX10_out_4 : decode cX10_out 4 = .ok (.iload_n 1, 1) := by decide +kernel
theorem dX10_out_5 : decode cX10_out 5 = .ok (.invokevirtual 110, 3) := by decide +kernel
theorem dX10_out_8 : decode cX10_out 8 = .ok (.astore_n 3, 1) := by decide +kernel
theorem dX10_out_9 : decode cX10_out 9 = .ok (.aload_n 3, 1) := by decide +kernel
theorem dX10_out_10 : decode cX10_out 10 = .ok (.ifnull 10, 3) := by decide +kernel
theorem dX10_out_20 : decode cX10_out 20 = .ok (.iconst (-1), 1) := by decide +kernel
theorem dX10_out_21 : decode cX10_out 21 = .ok (.ireturn, 1) := by decide +kernel
theorem dX10_arches_0 : decode cX10_arches 0 = .ok (.aload_n 0, 1) := by decide +kernel
theorem dX10_arches_1 : decode cX10_arches 1 = .ok (.getfield 19, 3) := by decide +kernel
theorem dX10_arches_4 : decode cX10_arches 4 = .ok (.iload_n 1, 1) := by decide +kernel
theorem dX10_arches_5 : decode cX10_arches 5 = .ok (.invokevirtual 110, 3) := by decide +kernel
theorem dX10_arches_8 : decode cX10_arches 8 = .ok (.astore_n 3, 1) := by decide +kernel
theorem dX10_arches_9 : decode cX10_arches 9 = .ok (.aload_n 3, 1) := by decide +kernel
theorem dX10_arches_10 : decode cX10_arches 10 = .ok (.ifnull 13, 3) := by decide +kernel
theorem dX10_arches_23 : decode cX10_arches 23 = .ok (.iconst (-1), 1) := by decide +kernel
theorem dX10_arches_24 : decode cX10_arches 24 = .ok (.ireturn, 1) := by decide +kernel
theorem dX10_value_0 : decode cX10_value 0 = .ok (.aload_n 0, 1) := by decide +kernel
theorem dX10_value_1 : decode cX10_value 1 = .ok (.getfield 19, 3) := by decide +kernel
theorem dX10_value_4 : decode cX10_value 4 = .ok (.iload_n 1, 1) := by decide +kernel
theorem dX10_value_5 : decode cX10_value 5 = .ok (.invokevirtual 110, 3) := by decide +kernel
theorem dX10_value_8 : decode cX10_value 8 = .ok (.astore 5, 2) := by decide +kernel
theorem dX10_value_10 : decode cX10_value 10 = .ok (.aload 5, 2) := by decide +kernel
theorem dX10_value_12 : decode cX10_value 12 = .ok (.ifnull 31, 3) := by decide +kernel
theorem dX10_value_43 : decode cX10_value 43 = .ok (.iconst (-1), 1) := by decide +kernel
theorem dX10_value_44 : decode cX10_value 44 = .ok (.ireturn, 1) := by decide +kernel
theorem dX10_walk_0 : decode cX10_walk 0 = .ok (.aload_n 0, 1) := by decide +kernel
theorem dX10_walk_1 : decode cX10_walk 1 = .ok (.getfield 19, 3) := by decide +kernel
theorem dX10_walk_4 : decode cX10_walk 4 = .ok (.iload_n 1, 1) := by decide +kernel
theorem dX10_walk_5 : decode cX10_walk 5 = .ok (.invokevirtual 110, 3) := by decide +kernel
theorem dX10_walk_8 : decode cX10_walk 8 = .ok (.astore 7, 2) := by decide +kernel
theorem dX10_walk_10 : decode cX10_walk 10 = .ok (.aload 7, 2) := by decide +kernel
theorem dX10_walk_12 : decode cX10_walk 12 = .ok (.ifnull 22, 3) := by decide +kernel
theorem dX10_walk_34 : decode cX10_walk 34 = .ok (.ldc 218, 2) := by decide +kernel
theorem dX10_walk_36 : decode cX10_walk 36 = .ok (.ireturn, 1) := by decide +kernel
theorem dX10_drawn_0 : decode cX10_drawn 0 = .ok (.aload_n 0, 1) := by decide +kernel
theorem dX10_drawn_1 : decode cX10_drawn 1 = .ok (.getfield 19, 3) := by decide +kernel
theorem dX10_drawn_4 : decode cX10_drawn 4 = .ok (.iload_n 1, 1) := by decide +kernel
theorem dX10_drawn_5 : decode cX10_drawn 5 = .ok (.invokevirtual 110, 3) := by decide +kernel
theorem dX10_drawn_8 : decode cX10_drawn 8 = .ok (.astore 8, 2) := by decide +kernel
theorem dX10_drawn_10 : decode cX10_drawn 10 = .ok (.aload 8, 2) := by decide +kernel
theorem dX10_drawn_12 : decode cX10_drawn 12 = .ok (.ifnull 34, 3) := by decide +kernel
theorem dX10_drawn_46 : decode cX10_drawn 46 = .ok (.ldc 218, 2) := by decide +kernel
theorem dX10_drawn_48 : decode cX10_drawn 48 = .ok (.ireturn, 1) := by decide +kernel
theorem dX10_peak_0 : decode cX10_peak 0 = .ok (.aload_n 0, 1) := by decide +kernel
theorem dX10_peak_1 : decode cX10_peak 1 = .ok (.getfield 19, 3) := by decide +kernel
theorem dX10_peak_4 : decode cX10_peak 4 = .ok (.iload_n 1, 1) := by decide +kernel
theorem dX10_peak_5 : decode cX10_peak 5 = .ok (.invokevirtual 110, 3) := by decide +kernel
theorem dX10_peak_8 : decode cX10_peak 8 = .ok (.astore 4, 2) := by decide +kernel
theorem dX10_peak_10 : decode cX10_peak 10 = .ok (.aload 4, 2) := by decide +kernel
theorem dX10_peak_12 : decode cX10_peak 12 = .ok (.ifnull 22, 3) := by decide +kernel
theorem dX10_peak_34 : decode cX10_peak 34 = .ok (.ldc 218, 2) := by decide +kernel
theorem dX10_peak_36 : decode cX10_peak 36 = .ok (.ireturn, 1) := by decide +kernel
theorem dX10_points_0 : decode cX10_points 0 = .ok (.aload_n 0, 1) := by decide +kernel
theorem dX10_points_1 : decode cX10_points 1 = .ok (.getfield 19, 3) := by decide +kernel
theorem dX10_points_4 : decode cX10_points 4 = .ok (.iload_n 1, 1) := by decide +kernel
theorem dX10_points_5 : decode cX10_points 5 = .ok (.invokevirtual 110, 3) := by decide +kernel
theorem dX10_points_8 : decode cX10_points 8 = .ok (.astore_n 3, 1) := by decide +kernel
theorem dX10_points_9 : decode cX10_points 9 = .ok (.aload_n 3, 1) := by decide +kernel
theorem dX10_points_10 : decode cX10_points 10 = .ok (.ifnull 10, 3) := by decide +kernel
theorem dX10_points_20 : decode cX10_points 20 = .ok (.iconst (-1), 1) := by decide +kernel
theorem dX10_points_21 : decode cX10_points 21 = .ok (.ireturn, 1) := by decide +kernel
theorem dX10_fewest_0 : decode cX10_fewest 0 = .ok (.aload_n 0, 1) := by decide +kernel
theorem dX10_fewest_1 : decode cX10_fewest 1 = .ok (.getfield 19, 3) := by decide +kernel
theorem dX10_fewest_4 : decode cX10_fewest 4 = .ok (.iload_n 1, 1) := by decide +kernel
theorem dX10_fewest_5 : decode cX10_fewest 5 = .ok (.invokevirtual 110, 3) := by decide +kernel
theorem dX10_fewest_8 : decode cX10_fewest 8 = .ok (.astore 4, 2) := by decide +kernel
theorem dX10_fewest_10 : decode cX10_fewest 10 = .ok (.aload 4, 2) := by decide +kernel
theorem dX10_fewest_12 : decode cX10_fewest 12 = .ok (.ifnull 11, 3) := by decide +kernel
theorem dX10_fewest_23 : decode cX10_fewest 23 = .ok (.iconst (-1), 1) := by decide +kernel
theorem dX10_fewest_24 : decode cX10_fewest 24 = .ok (.ireturn, 1) := by decide +kernel
theorem dX10_period_0 : decode cX10_period 0 = .ok (.aload_n 0, 1) := by decide +kernel
theorem dX10_period_1 : decode cX10_period 1 = .ok (.getfield 19, 3) := by decide +kernel
theorem dX10_period_4 : decode cX10_period 4 = .ok (.iload_n 1, 1) := by decide +kernel
theorem dX10_period_5 : decode cX10_period 5 = .ok (.invokevirtual 110, 3) := by decide +kernel
theorem dX10_period_8 : decode cX10_period 8 = .ok (.astore_n 2, 1) := by decide +kernel
theorem dX10_period_9 : decode cX10_period 9 = .ok (.aload_n 2, 1) := by decide +kernel
theorem dX10_period_10 : decode cX10_period 10 = .ok (.ifnonnull 5, 3) := by decide +kernel
theorem dX10_period_13 : decode cX10_period 13 = .ok (.iconst (-1), 1) := by decide +kernel
theorem dX10_period_14 : decode cX10_period 14 = .ok (.ireturn, 1) := by decide +kernel
theorem dX10_meet_0 : decode cX10_meet 0 = .ok (.aload_n 0, 1) := by decide +kernel
theorem dX10_meet_1 : decode cX10_meet 1 = .ok (.getfield 19, 3) := by decide +kernel
theorem dX10_meet_4 : decode cX10_meet 4 = .ok (.iload_n 1, 1) := by decide +kernel
theorem dX10_meet_5 : decode cX10_meet 5 = .ok (.invokevirtual 110, 3) := by decide +kernel
theorem dX10_meet_8 : decode cX10_meet 8 = .ok (.astore 4, 2) := by decide +kernel
theorem dX10_meet_10 : decode cX10_meet 10 = .ok (.aload_n 0, 1) := by decide +kernel
theorem dX10_meet_11 : decode cX10_meet 11 = .ok (.getfield 19, 3) := by decide +kernel
theorem dX10_meet_14 : decode cX10_meet 14 = .ok (.iload_n 2, 1) := by decide +kernel
theorem dX10_meet_15 : decode cX10_meet 15 = .ok (.invokevirtual 110, 3) := by decide +kernel
theorem dX10_meet_18 : decode cX10_meet 18 = .ok (.astore 5, 2) := by decide +kernel
theorem dX10_meet_20 : decode cX10_meet 20 = .ok (.aload 4, 2) := by decide +kernel
theorem dX10_meet_22 : decode cX10_meet 22 = .ok (.ifnull 15, 3) := by decide +kernel
theorem dX10_meet_37 : decode cX10_meet 37 = .ok (.iconst (-1), 1) := by decide +kernel
theorem dX10_meet_38 : decode cX10_meet 38 = .ok (.ireturn, 1) := by decide +kernel
theorem dX10_kernel_0 : decode cX10_kernel 0 = .ok (.aload_n 0, 1) := by decide +kernel
theorem dX10_kernel_1 : decode cX10_kernel 1 = .ok (.getfield 19, 3) := by decide +kernel
theorem dX10_kernel_4 : decode cX10_kernel 4 = .ok (.iload_n 1, 1) := by decide +kernel
theorem dX10_kernel_5 : decode cX10_kernel 5 = .ok (.invokevirtual 110, 3) := by decide +kernel
theorem dX10_kernel_8 : decode cX10_kernel 8 = .ok (.astore 4, 2) := by decide +kernel
theorem dX10_kernel_10 : decode cX10_kernel 10 = .ok (.aload 4, 2) := by decide +kernel
theorem dX10_kernel_12 : decode cX10_kernel 12 = .ok (.ifnull 17, 3) := by decide +kernel
theorem dX10_kernel_29 : decode cX10_kernel 29 = .ok (.iconst (-1), 1) := by decide +kernel
theorem dX10_kernel_30 : decode cX10_kernel 30 = .ok (.ireturn, 1) := by decide +kernel
theorem dX10_turned_0 : decode cX10_turned 0 = .ok (.aload_n 0, 1) := by decide +kernel
theorem dX10_turned_1 : decode cX10_turned 1 = .ok (.getfield 19, 3) := by decide +kernel
theorem dX10_turned_4 : decode cX10_turned 4 = .ok (.iload_n 1, 1) := by decide +kernel
theorem dX10_turned_5 : decode cX10_turned 5 = .ok (.invokevirtual 110, 3) := by decide +kernel
theorem dX10_turned_8 : decode cX10_turned 8 = .ok (.astore 5, 2) := by decide +kernel
theorem dX10_turned_10 : decode cX10_turned 10 = .ok (.aload 5, 2) := by decide +kernel
theorem dX10_turned_12 : decode cX10_turned 12 = .ok (.ifnull 27, 3) := by decide +kernel
theorem dX10_turned_39 : decode cX10_turned 39 = .ok (.iconst (-1), 1) := by decide +kernel
theorem dX10_turned_40 : decode cX10_turned 40 = .ok (.ireturn, 1) := by decide +kernel
theorem dX10_orbit_0 : decode cX10_orbit 0 = .ok (.aload_n 0, 1) := by decide +kernel
theorem dX10_orbit_1 : decode cX10_orbit 1 = .ok (.getfield 19, 3) := by decide +kernel
theorem dX10_orbit_4 : decode cX10_orbit 4 = .ok (.iload_n 1, 1) := by decide +kernel
theorem dX10_orbit_5 : decode cX10_orbit 5 = .ok (.invokevirtual 110, 3) := by decide +kernel
theorem dX10_orbit_8 : decode cX10_orbit 8 = .ok (.astore 6, 2) := by decide +kernel
theorem dX10_orbit_10 : decode cX10_orbit 10 = .ok (.iload 4, 2) := by decide +kernel
theorem dX10_orbit_12 : decode cX10_orbit 12 = .ok (.iconst (-1), 1) := by decide +kernel
theorem dX10_orbit_13 : decode cX10_orbit 13 = .ok (.if_icmp .eq 13, 3) := by decide +kernel
theorem dX10_orbit_26 : decode cX10_orbit 26 = .ok (.iconst 1, 1) := by decide +kernel
theorem dX10_orbit_27 : decode cX10_orbit 27 = .ok (.goto 4, 3) := by decide +kernel
theorem dX10_orbit_31 : decode cX10_orbit 31 = .ok (.istore 7, 2) := by decide +kernel
theorem dX10_orbit_33 : decode cX10_orbit 33 = .ok (.aload 6, 2) := by decide +kernel
theorem dX10_orbit_35 : decode cX10_orbit 35 = .ok (.ifnull 22, 3) := by decide +kernel
theorem dX10_orbit_57 : decode cX10_orbit 57 = .ok (.bipush (-2), 2) := by decide +kernel
theorem dX10_orbit_59 : decode cX10_orbit 59 = .ok (.ireturn, 1) := by decide +kernel
theorem dX10_orbit_16 : decode cX10_orbit 16 = .ok (.iload 5, 2) := by decide +kernel
theorem dX10_orbit_18 : decode cX10_orbit 18 = .ok (.iconst 0, 1) := by decide +kernel
theorem dX10_orbit_19 : decode cX10_orbit 19 = .ok (.iconst 1, 1) := by decide +kernel
theorem dX10_orbit_20 : decode cX10_orbit 20 = .ok (.invokestatic 87, 3) := by decide +kernel
theorem w_425 : Cond.methodLink "QuarterWalks" 87 yX10_within ∈ wAll := wIn 425 (by decide +kernel) (by decide +kernel)
theorem dX10_orbit_23 : decode cX10_orbit 23 = .ok (.ifCond .eq 7, 3) := by decide +kernel
theorem dX10_orbit_30 : decode cX10_orbit 30 = .ok (.iconst 0, 1) := by decide +kernel
theorem dX10_group_0 : decode cX10_group 0 = .ok (.aload_n 0, 1) := by decide +kernel
theorem dX10_group_1 : decode cX10_group 1 = .ok (.getfield 19, 3) := by decide +kernel
theorem dX10_group_4 : decode cX10_group 4 = .ok (.iload_n 1, 1) := by decide +kernel
theorem dX10_group_5 : decode cX10_group 5 = .ok (.invokevirtual 110, 3) := by decide +kernel
theorem dX10_group_8 : decode cX10_group 8 = .ok (.astore_n 2, 1) := by decide +kernel
theorem dX10_group_9 : decode cX10_group 9 = .ok (.aload_n 2, 1) := by decide +kernel
theorem dX10_group_10 : decode cX10_group 10 = .ok (.ifnonnull 8, 3) := by decide +kernel
theorem dX10_group_13 : decode cX10_group 13 = .ok (.bipush (-2), 2) := by decide +kernel
theorem dX10_group_15 : decode cX10_group 15 = .ok (.goto 11, 3) := by decide +kernel
theorem dX10_group_26 : decode cX10_group 26 = .ok (.ireturn, 1) := by decide +kernel
theorem dX10_sum_0 : decode cX10_sum 0 = .ok (.aload_n 0, 1) := by decide +kernel
theorem dX10_sum_1 : decode cX10_sum 1 = .ok (.getfield 19, 3) := by decide +kernel
theorem dX10_sum_4 : decode cX10_sum 4 = .ok (.iload_n 1, 1) := by decide +kernel
theorem dX10_sum_5 : decode cX10_sum 5 = .ok (.invokevirtual 110, 3) := by decide +kernel
theorem dX10_sum_8 : decode cX10_sum 8 = .ok (.astore 4, 2) := by decide +kernel
theorem dX10_sum_10 : decode cX10_sum 10 = .ok (.aload 4, 2) := by decide +kernel
theorem dX10_sum_12 : decode cX10_sum 12 = .ok (.ifnull 17, 3) := by decide +kernel
theorem dX10_sum_29 : decode cX10_sum 29 = .ok (.bipush (-2), 2) := by decide +kernel
theorem dX10_sum_31 : decode cX10_sum 31 = .ok (.ireturn, 1) := by decide +kernel
theorem dX10_noUse_0 : decode cX10_noUse 0 = .ok (.aload_n 0, 1) := by decide +kernel
theorem dX10_noUse_1 : decode cX10_noUse 1 = .ok (.getfield 19, 3) := by decide +kernel
theorem dX10_noUse_4 : decode cX10_noUse 4 = .ok (.iload_n 1, 1) := by decide +kernel
theorem dX10_noUse_5 : decode cX10_noUse 5 = .ok (.invokevirtual 110, 3) := by decide +kernel
theorem dX10_noUse_8 : decode cX10_noUse 8 = .ok (.astore_n 2, 1) := by decide +kernel
theorem dX10_noUse_9 : decode cX10_noUse 9 = .ok (.aload_n 2, 1) := by decide +kernel
theorem dX10_noUse_10 : decode cX10_noUse 10 = .ok (.ifnonnull 5, 3) := by decide +kernel
theorem dX10_noUse_13 : decode cX10_noUse 13 = .ok (.iconst (-1), 1) := by decide +kernel
theorem dX10_noUse_14 : decode cX10_noUse 14 = .ok (.ireturn, 1) := by decide +kernel
theorem dX10_enough_0 : decode cX10_enough 0 = .ok (.aload_n 0, 1) := by decide +kernel
theorem dX10_enough_1 : decode cX10_enough 1 = .ok (.getfield 19, 3) := by decide +kernel
theorem dX10_enough_4 : decode cX10_enough 4 = .ok (.iload_n 1, 1) := by decide +kernel
theorem dX10_enough_5 : decode cX10_enough 5 = .ok (.invokevirtual 110, 3) := by decide +kernel
theorem dX10_enough_8 : decode cX10_enough 8 = .ok (.astore_n 2, 1) := by decide +kernel
theorem dX10_enough_9 : decode cX10_enough 9 = .ok (.aload_n 2, 1) := by decide +kernel
theorem dX10_enough_10 : decode cX10_enough 10 = .ok (.ifnonnull 5, 3) := by decide +kernel
theorem dX10_enough_13 : decode cX10_enough 13 = .ok (.iconst (-1), 1) := by decide +kernel
theorem dX10_enough_14 : decode cX10_enough 14 = .ok (.ireturn, 1) := by decide +kernel
theorem dX10_alike_0 : decode cX10_alike 0 = .ok (.aload_n 0, 1) := by decide +kernel
theorem dX10_alike_1 : decode cX10_alike 1 = .ok (.getfield 19, 3) := by decide +kernel
theorem dX10_alike_4 : decode cX10_alike 4 = .ok (.iload_n 1, 1) := by decide +kernel
theorem dX10_alike_5 : decode cX10_alike 5 = .ok (.invokevirtual 110, 3) := by decide +kernel
theorem dX10_alike_8 : decode cX10_alike 8 = .ok (.astore_n 2, 1) := by decide +kernel
theorem dX10_alike_9 : decode cX10_alike 9 = .ok (.aload_n 2, 1) := by decide +kernel
theorem dX10_alike_10 : decode cX10_alike 10 = .ok (.ifnonnull 5, 3) := by decide +kernel
theorem dX10_alike_13 : decode cX10_alike 13 = .ok (.iconst (-1), 1) := by decide +kernel
theorem dX10_alike_14 : decode cX10_alike 14 = .ok (.ireturn, 1) := by decide +kernel
theorem dX10_recurrence_0 : decode cX10_recurrence 0 = .ok (.aload_n 0, 1) := by decide +kernel
theorem dX10_recurrence_1 : decode cX10_recurrence 1 = .ok (.iload_n 1, 1) := by decide +kernel
theorem dX10_recurrence_2 : decode cX10_recurrence 2 = .ok (.iload_n 2, 1) := by decide +kernel
theorem dX10_recurrence_3 : decode cX10_recurrence 3 = .ok (.iconst 0, 1) := by decide +kernel
theorem dX10_recurrence_4 : decode cX10_recurrence 4 = .ok (.iload_n 3, 1) := by decide +kernel
theorem dX10_recurrence_5 : decode cX10_recurrence 5 = .ok (.iload 4, 2) := by decide +kernel
theorem dX10_recurrence_7 : decode cX10_recurrence 7 = .ok (.invokevirtual 328, 3) := by decide +kernel
theorem w_1026 : Cond.methodLink "QuarterWalks" 328 yX10_readies ∈ wAll := wIn 1026 (by decide +kernel) (by decide +kernel)
theorem w_27 : Cond.selects yX10_readies.cls yX10_readies yX10_readies ∈ wAll := wIn 27 (by decide +kernel) (by decide +kernel)
theorem mk_X10_readies : mk yX10_readies 5 := ⟨by decide +kernel, w_96⟩
theorem w_1028 : Cond.instanceMethod yX10_readies ∈ wAll := wIn 1028 (by decide +kernel) (by decide +kernel)
theorem w_1029 : Cond.code yX10_readies cX10_readies 7 (some .boolean) ∈ wAll := wIn 1029 (by decide +kernel) (by decide +kernel)
theorem dX10_recurrence_10 : decode cX10_recurrence 10 = .ok (.istore 7, 2) := by decide +kernel
theorem dX10_recurrence_12 : decode cX10_recurrence 12 = .ok (.iload 7, 2) := by decide +kernel
theorem dX10_recurrence_14 : decode cX10_recurrence 14 = .ok (.ifCond .eq 41, 3) := by decide +kernel
theorem dX10_recurrence_55 : decode cX10_recurrence 55 = .ok (.ldc 218, 2) := by decide +kernel
theorem dX10_recurrence_57 : decode cX10_recurrence 57 = .ok (.ireturn, 1) := by decide +kernel
theorem dX10_fails_0 : decode cX10_fails 0 = .ok (.aload_n 0, 1) := by decide +kernel
theorem dX10_fails_1 : decode cX10_fails 1 = .ok (.iload_n 1, 1) := by decide +kernel
theorem dX10_fails_2 : decode cX10_fails 2 = .ok (.iload_n 2, 1) := by decide +kernel
theorem dX10_fails_3 : decode cX10_fails 3 = .ok (.iconst 0, 1) := by decide +kernel
theorem dX10_fails_4 : decode cX10_fails 4 = .ok (.iload_n 3, 1) := by decide +kernel
theorem dX10_fails_5 : decode cX10_fails 5 = .ok (.iload 4, 2) := by decide +kernel
theorem dX10_fails_7 : decode cX10_fails 7 = .ok (.invokevirtual 328, 3) := by decide +kernel
theorem dX10_fails_10 : decode cX10_fails 10 = .ok (.ifCond .eq 16, 3) := by decide +kernel
theorem dX10_fails_26 : decode cX10_fails 26 = .ok (.ldc 218, 2) := by decide +kernel
theorem dX10_fails_28 : decode cX10_fails 28 = .ok (.ireturn, 1) := by decide +kernel
theorem dX10_equation_0 : decode cX10_equation 0 = .ok (.aload_n 0, 1) := by decide +kernel
theorem dX10_equation_1 : decode cX10_equation 1 = .ok (.iload_n 1, 1) := by decide +kernel
theorem dX10_equation_2 : decode cX10_equation 2 = .ok (.iload_n 2, 1) := by decide +kernel
theorem dX10_equation_3 : decode cX10_equation 3 = .ok (.iconst 1, 1) := by decide +kernel
theorem dX10_equation_4 : decode cX10_equation 4 = .ok (.iload_n 3, 1) := by decide +kernel
theorem dX10_equation_5 : decode cX10_equation 5 = .ok (.iload 4, 2) := by decide +kernel
theorem dX10_equation_7 : decode cX10_equation 7 = .ok (.invokevirtual 328, 3) := by decide +kernel
theorem dX10_equation_10 : decode cX10_equation 10 = .ok (.istore 7, 2) := by decide +kernel
theorem dX10_equation_12 : decode cX10_equation 12 = .ok (.iload 7, 2) := by decide +kernel
theorem dX10_equation_14 : decode cX10_equation 14 = .ok (.ifCond .eq 41, 3) := by decide +kernel
theorem dX10_equation_55 : decode cX10_equation 55 = .ok (.ldc 218, 2) := by decide +kernel
theorem dX10_equation_57 : decode cX10_equation 57 = .ok (.ireturn, 1) := by decide +kernel
theorem dX10_breaks_0 : decode cX10_breaks 0 = .ok (.aload_n 0, 1) := by decide +kernel
theorem dX10_breaks_1 : decode cX10_breaks 1 = .ok (.iload_n 1, 1) := by decide +kernel
theorem dX10_breaks_2 : decode cX10_breaks 2 = .ok (.iload_n 2, 1) := by decide +kernel
theorem dX10_breaks_3 : decode cX10_breaks 3 = .ok (.iconst 1, 1) := by decide +kernel
theorem dX10_breaks_4 : decode cX10_breaks 4 = .ok (.iload_n 3, 1) := by decide +kernel
theorem dX10_breaks_5 : decode cX10_breaks 5 = .ok (.iload 4, 2) := by decide +kernel
theorem dX10_breaks_7 : decode cX10_breaks 7 = .ok (.invokevirtual 328, 3) := by decide +kernel
theorem dX10_breaks_10 : decode cX10_breaks 10 = .ok (.ifCond .eq 16, 3) := by decide +kernel
theorem dX10_breaks_26 : decode cX10_breaks 26 = .ok (.ldc 218, 2) := by decide +kernel
theorem dX10_breaks_28 : decode cX10_breaks 28 = .ok (.ireturn, 1) := by decide +kernel
theorem dX10_least_0 : decode cX10_least 0 = .ok (.aload_n 0, 1) := by decide +kernel
theorem dX10_least_1 : decode cX10_least 1 = .ok (.getfield 19, 3) := by decide +kernel
theorem dX10_least_4 : decode cX10_least 4 = .ok (.iload_n 1, 1) := by decide +kernel
theorem dX10_least_5 : decode cX10_least 5 = .ok (.invokevirtual 110, 3) := by decide +kernel
theorem dX10_least_8 : decode cX10_least 8 = .ok (.astore 4, 2) := by decide +kernel
theorem dX10_least_10 : decode cX10_least 10 = .ok (.aload 4, 2) := by decide +kernel
theorem dX10_least_12 : decode cX10_least 12 = .ok (.ifnull 19, 3) := by decide +kernel
theorem dX10_least_31 : decode cX10_least 31 = .ok (.ldc 218, 2) := by decide +kernel
theorem dX10_least_33 : decode cX10_least 33 = .ok (.ireturn, 1) := by decide +kernel
theorem dX10_written_0 : decode cX10_written 0 = .ok (.aload_n 0, 1) := by decide +kernel
theorem dX10_written_1 : decode cX10_written 1 = .ok (.getfield 19, 3) := by decide +kernel
theorem dX10_written_4 : decode cX10_written 4 = .ok (.iload_n 1, 1) := by decide +kernel
theorem dX10_written_5 : decode cX10_written 5 = .ok (.invokevirtual 110, 3) := by decide +kernel
theorem dX10_written_8 : decode cX10_written 8 = .ok (.astore_n 3, 1) := by decide +kernel
theorem dX10_written_9 : decode cX10_written 9 = .ok (.aload_n 3, 1) := by decide +kernel
theorem dX10_written_10 : decode cX10_written 10 = .ok (.ifnonnull 5, 3) := by decide +kernel
theorem dX10_written_13 : decode cX10_written 13 = .ok (.iconst (-1), 1) := by decide +kernel
theorem dX10_written_14 : decode cX10_written 14 = .ok (.ireturn, 1) := by decide +kernel
set_option maxRecDepth 100000 in
set_option maxHeartbeats 4000000 in
theorem c_X10_drop (l : Launch) (D : va_G) (G : Nat → Nat) (b0 : Nat) (f : hM) (X : Nat → Nat) (hX : xw G f X) (p0 : Int32) : mI l yX10_drop cX10_drop 2 (.int) { frames := 2, cells := 0, slots := 0, locals := 43 } D G b0 f [.ref (X 0), .int p0] (fun r f1 => (-1 : Int32) = r ∧ ∀ q, (∀ i, i ∈ XI → q ≠ X i) → f1 q = f q) := by
  refine met_of (own := RX10) (by decide) rfl (Nat.le_of_ble_eq_true rfl) ?_
  intro p e s m below meth c ls C hr hini hl h
  have hl : lv_has ls 2 [(0, .ref (X 0)), (1, .int p0)] := hl
  obtain ⟨hx, hb, hml, hown, hts, hE0, hlk⟩ := id C
  obtain ⟨kx0, kx1, kx2, kx3, kx4, kx5, kx6, kx7, kx8, kx9⟩ := hX
  refine lv_aload_n hx hb dX10_drop_0 rfl (lv_at hl 0 rfl) ?_
  refine q_get C h kx0 fl_X10_19 (v := .ref (X 2)) rfl dX10_drop_1 ?_
  refine lv_iload_n hx hb dX10_drop_4 rfl (lv_at hl 1 rfl) ?_
  refine k_q (r_V C h hl (As := [.int p0]) (rest := []) (c_X0_find l D G b0 f X ⟨kx0, kx1, kx2, kx3, kx4, kx5, kx6, kx7, kx8, kx9⟩ p0) kx2 (Cn := RX0) (T := TX0) (N := 6) rfl rfl mk_X0_find w_594 w_595 w_596 w_597 ⟨Nat.le_of_ble_eq_true rfl, Nat.le_of_ble_eq_true rfl⟩ rfl (Nat.le_of_ble_eq_true rfl) ⟨Nat.le_of_ble_eq_true rfl, Nat.le_of_ble_eq_true rfl⟩ rfl dX10_drop_5) h (fun r_35 f_36 H locs p_37 h => ?_)
  obtain ⟨rfl, rfl⟩ := p_37
  refine lv_ifnonnullN hx hb dX10_drop_8 ?_
  refine lv_aload_n hx hb dX10_drop_11 rfl (lv_at hl 0 rfl) ?_
  refine lv_iconst (v := 0) hx hb dX10_drop_12 (by decide) ?_
  refine k_i (r_V C h hl (As := [.int 0]) (rest := []) (c_X10_refuse l D G b0 f X ⟨kx0, kx1, kx2, kx3, kx4, kx5, kx6, kx7, kx8, kx9⟩ ) kx0 (Cn := RX10) (T := TX10) (N := 10) rfl rfl mk_X10_refuse w_519 w_521 w_8 w_522 ⟨Nat.le_of_ble_eq_true rfl, Nat.le_of_ble_eq_true rfl⟩ rfl (Nat.le_of_ble_eq_true rfl) ⟨Nat.le_of_ble_eq_true rfl, Nat.le_of_ble_eq_true rfl⟩ rfl dX10_drop_13) h (fun r_38 f_39 H locs p_40 h => ?_)
  obtain ⟨rfl, p_40⟩ := p_40
  exact q_iret C h hr (⟨rfl, fun q hq => (p_40 q hq)⟩) (Nat.le_of_ble_eq_true rfl) (Nat.le_of_ble_eq_true rfl) dX10_drop_16
set_option maxRecDepth 100000 in
set_option maxHeartbeats 4000000 in
theorem c_X10_mirror (l : Launch) (D : va_G) (G : Nat → Nat) (b0 : Nat) (f : hM) (X : Nat → Nat) (hX : xw G f X) (p0 : Int32) : mI l yX10_mirror cX10_mirror 3 (.int) { frames := 2, cells := 0, slots := 0, locals := 43 } D G b0 f [.ref (X 0), .int p0] (fun r f1 => (-1 : Int32) = r ∧ ∀ q, (∀ i, i ∈ XI → q ≠ X i) → f1 q = f q) := by
  refine met_of (own := RX10) (by decide) rfl (Nat.le_of_ble_eq_true rfl) ?_
  intro p e s m below meth c ls C hr hini hl h
  have hl : lv_has ls 3 [(0, .ref (X 0)), (1, .int p0)] := hl
  obtain ⟨hx, hb, hml, hown, hts, hE0, hlk⟩ := id C
  obtain ⟨kx0, kx1, kx2, kx3, kx4, kx5, kx6, kx7, kx8, kx9⟩ := hX
  refine lv_aload_n hx hb dX10_mirror_0 rfl (lv_at hl 0 rfl) ?_
  refine q_get C h kx0 fl_X10_19 (v := .ref (X 2)) rfl dX10_mirror_1 ?_
  refine lv_iload_n hx hb dX10_mirror_4 rfl (lv_at hl 1 rfl) ?_
  refine k_q (r_V C h hl (As := [.int p0]) (rest := []) (c_X0_find l D G b0 f X ⟨kx0, kx1, kx2, kx3, kx4, kx5, kx6, kx7, kx8, kx9⟩ p0) kx2 (Cn := RX0) (T := TX0) (N := 6) rfl rfl mk_X0_find w_594 w_595 w_596 w_597 ⟨Nat.le_of_ble_eq_true rfl, Nat.le_of_ble_eq_true rfl⟩ rfl (Nat.le_of_ble_eq_true rfl) ⟨Nat.le_of_ble_eq_true rfl, Nat.le_of_ble_eq_true rfl⟩ rfl dX10_mirror_5) h (fun r_41 f_42 H locs p_43 h => ?_)
  obtain ⟨rfl, rfl⟩ := p_43
  refine lv_astore_nN (lv' := [(2, .null), (0, .ref (X 0)), (1, .int p0)]) hx hb dX10_mirror_8 rfl hl (by decide) rfl (fun ls hl => ?_)
  refine lv_aload_nN hx hb dX10_mirror_9 rfl (lv_at hl 0 rfl) ?_
  refine lv_ifnonnullN hx hb dX10_mirror_10 ?_
  refine lv_aload_n hx hb dX10_mirror_13 rfl (lv_at hl 1 rfl) ?_
  refine lv_iconst (v := 0) hx hb dX10_mirror_14 (by decide) ?_
  refine k_i (r_V C h hl (As := [.int 0]) (rest := []) (c_X10_refuse l D G b0 f X ⟨kx0, kx1, kx2, kx3, kx4, kx5, kx6, kx7, kx8, kx9⟩ ) kx0 (Cn := RX10) (T := TX10) (N := 10) rfl rfl mk_X10_refuse w_519 w_521 w_8 w_522 ⟨Nat.le_of_ble_eq_true rfl, Nat.le_of_ble_eq_true rfl⟩ rfl (Nat.le_of_ble_eq_true rfl) ⟨Nat.le_of_ble_eq_true rfl, Nat.le_of_ble_eq_true rfl⟩ rfl dX10_mirror_15) h (fun r_44 f_45 H locs p_46 h => ?_)
  obtain ⟨rfl, p_46⟩ := p_46
  refine lv_goto (tgt := 37) hx hb dX10_mirror_18 (by decide) ?_
  exact q_iret C h hr (⟨rfl, fun q hq => (p_46 q hq)⟩) (Nat.le_of_ble_eq_true rfl) (Nat.le_of_ble_eq_true rfl) dX10_mirror_37
set_option maxRecDepth 100000 in
set_option maxHeartbeats 4000000 in
theorem c_X10_turn (l : Launch) (D : va_G) (G : Nat → Nat) (b0 : Nat) (f : hM) (X : Nat → Nat) (hX : xw G f X) (p0 : Int32) : mI l yX10_turn cX10_turn 3 (.int) { frames := 2, cells := 0, slots := 0, locals := 43 } D G b0 f [.ref (X 0), .int p0] (fun r f1 => (-1 : Int32) = r ∧ ∀ q, (∀ i, i ∈ XI → q ≠ X i) → f1 q = f q) := by
  refine met_of (own := RX10) (by decide) rfl (Nat.le_of_ble_eq_true rfl) ?_
  intro p e s m below meth c ls C hr hini hl h
  have hl : lv_has ls 3 [(0, .ref (X 0)), (1, .int p0)] := hl
  obtain ⟨hx, hb, hml, hown, hts, hE0, hlk⟩ := id C
  obtain ⟨kx0, kx1, kx2, kx3, kx4, kx5, kx6, kx7, kx8, kx9⟩ := hX
  refine lv_aload_n hx hb dX10_turn_0 rfl (lv_at hl 0 rfl) ?_
  refine q_get C h kx0 fl_X10_19 (v := .ref (X 2)) rfl dX10_turn_1 ?_
  refine lv_iload_n hx hb dX10_turn_4 rfl (lv_at hl 1 rfl) ?_
  refine k_q (r_V C h hl (As := [.int p0]) (rest := []) (c_X0_find l D G b0 f X ⟨kx0, kx1, kx2, kx3, kx4, kx5, kx6, kx7, kx8, kx9⟩ p0) kx2 (Cn := RX0) (T := TX0) (N := 6) rfl rfl mk_X0_find w_594 w_595 w_596 w_597 ⟨Nat.le_of_ble_eq_true rfl, Nat.le_of_ble_eq_true rfl⟩ rfl (Nat.le_of_ble_eq_true rfl) ⟨Nat.le_of_ble_eq_true rfl, Nat.le_of_ble_eq_true rfl⟩ rfl dX10_turn_5) h (fun r_47 f_48 H locs p_49 h => ?_)
  obtain ⟨rfl, rfl⟩ := p_49
  refine lv_astore_nN (lv' := [(2, .null), (0, .ref (X 0)), (1, .int p0)]) hx hb dX10_turn_8 rfl hl (by decide) rfl (fun ls hl => ?_)
  refine lv_aload_nN hx hb dX10_turn_9 rfl (lv_at hl 0 rfl) ?_
  refine lv_ifnonnullN hx hb dX10_turn_10 ?_
  refine lv_aload_n hx hb dX10_turn_13 rfl (lv_at hl 1 rfl) ?_
  refine lv_iconst (v := 0) hx hb dX10_turn_14 (by decide) ?_
  refine k_i (r_V C h hl (As := [.int 0]) (rest := []) (c_X10_refuse l D G b0 f X ⟨kx0, kx1, kx2, kx3, kx4, kx5, kx6, kx7, kx8, kx9⟩ ) kx0 (Cn := RX10) (T := TX10) (N := 10) rfl rfl mk_X10_refuse w_519 w_521 w_8 w_522 ⟨Nat.le_of_ble_eq_true rfl, Nat.le_of_ble_eq_true rfl⟩ rfl (Nat.le_of_ble_eq_true rfl) ⟨Nat.le_of_ble_eq_true rfl, Nat.le_of_ble_eq_true rfl⟩ rfl dX10_turn_15) h (fun r_50 f_51 H locs p_52 h => ?_)
  obtain ⟨rfl, p_52⟩ := p_52
  refine lv_goto (tgt := 37) hx hb dX10_turn_18 (by decide) ?_
  exact q_iret C h hr (⟨rfl, fun q hq => (p_52 q hq)⟩) (Nat.le_of_ble_eq_true rfl) (Nat.le_of_ble_eq_true rfl) dX10_turn_37
set_option maxRecDepth 100000 in
set_option maxHeartbeats 4000000 in
theorem c_X10_join (l : Launch) (D : va_G) (G : Nat → Nat) (b0 : Nat) (f : hM) (X : Nat → Nat) (hX : xw G f X) (p0 : Int32) (p1 : Int32) : mI l yX10_join cX10_join 7 (.int) { frames := 2, cells := 0, slots := 0, locals := 43 } D G b0 f [.ref (X 0), .int p0, .int p1] (fun r f1 => (-1 : Int32) = r ∧ ∀ q, (∀ i, i ∈ XI → q ≠ X i) → f1 q = f q) := by
  refine met_of (own := RX10) (by decide) rfl (Nat.le_of_ble_eq_true rfl) ?_
  intro p e s m below meth c ls C hr hini hl h
  have hl : lv_has ls 7 [(0, .ref (X 0)), (1, .int p0), (2, .int p1)] := hl
  obtain ⟨hx, hb, hml, hown, hts, hE0, hlk⟩ := id C
  obtain ⟨kx0, kx1, kx2, kx3, kx4, kx5, kx6, kx7, kx8, kx9⟩ := hX
  refine lv_aload_n hx hb dX10_join_0 rfl (lv_at hl 0 rfl) ?_
  refine q_get C h kx0 fl_X10_19 (v := .ref (X 2)) rfl dX10_join_1 ?_
  refine lv_iload_n hx hb dX10_join_4 rfl (lv_at hl 1 rfl) ?_
  refine k_q (r_V C h hl (As := [.int p0]) (rest := []) (c_X0_find l D G b0 f X ⟨kx0, kx1, kx2, kx3, kx4, kx5, kx6, kx7, kx8, kx9⟩ p0) kx2 (Cn := RX0) (T := TX0) (N := 6) rfl rfl mk_X0_find w_594 w_595 w_596 w_597 ⟨Nat.le_of_ble_eq_true rfl, Nat.le_of_ble_eq_true rfl⟩ rfl (Nat.le_of_ble_eq_true rfl) ⟨Nat.le_of_ble_eq_true rfl, Nat.le_of_ble_eq_true rfl⟩ rfl dX10_join_5) h (fun r_53 f_54 H locs p_55 h => ?_)
  obtain ⟨rfl, rfl⟩ := p_55
  refine lv_astore_nN (lv' := [(3, .null), (0, .ref (X 0)), (1, .int p0), (2, .int p1)]) hx hb dX10_join_8 rfl hl (by decide) rfl (fun ls hl => ?_)
  refine lv_aload_n hx hb dX10_join_9 rfl (lv_at hl 1 rfl) ?_
  refine q_get C h kx0 fl_X10_19 (v := .ref (X 2)) rfl dX10_join_10 ?_
  refine lv_iload_n hx hb dX10_join_13 rfl (lv_at hl 3 rfl) ?_
  refine k_q (r_V C h hl (As := [.int p1]) (rest := []) (c_X0_find l D G b0 f X ⟨kx0, kx1, kx2, kx3, kx4, kx5, kx6, kx7, kx8, kx9⟩ p1) kx2 (Cn := RX0) (T := TX0) (N := 6) rfl rfl mk_X0_find w_594 w_595 w_596 w_597 ⟨Nat.le_of_ble_eq_true rfl, Nat.le_of_ble_eq_true rfl⟩ rfl (Nat.le_of_ble_eq_true rfl) ⟨Nat.le_of_ble_eq_true rfl, Nat.le_of_ble_eq_true rfl⟩ rfl dX10_join_14) h (fun r_56 f_57 H locs p_58 h => ?_)
  obtain ⟨rfl, rfl⟩ := p_58
  refine lv_astoreN (lv' := [(4, .null), (3, .null), (0, .ref (X 0)), (1, .int p0), (2, .int p1)]) hx hb dX10_join_17 hl (by decide) rfl (fun ls hl => ?_)
  refine lv_aload_nN hx hb dX10_join_19 rfl (lv_at hl 1 rfl) ?_
  refine lv_ifnullN (tgt := 28) hx hb dX10_join_20 (by decide) ?_
  refine lv_aload_n hx hb dX10_join_28 rfl (lv_at hl 2 rfl) ?_
  refine lv_iconst (v := 0) hx hb dX10_join_29 (by decide) ?_
  refine k_i (r_V C h hl (As := [.int 0]) (rest := []) (c_X10_refuse l D G b0 f X ⟨kx0, kx1, kx2, kx3, kx4, kx5, kx6, kx7, kx8, kx9⟩ ) kx0 (Cn := RX10) (T := TX10) (N := 10) rfl rfl mk_X10_refuse w_519 w_521 w_8 w_522 ⟨Nat.le_of_ble_eq_true rfl, Nat.le_of_ble_eq_true rfl⟩ rfl (Nat.le_of_ble_eq_true rfl) ⟨Nat.le_of_ble_eq_true rfl, Nat.le_of_ble_eq_true rfl⟩ rfl dX10_join_30) h (fun r_59 f_60 H locs p_61 h => ?_)
  obtain ⟨rfl, p_61⟩ := p_61
  exact q_iret C h hr (⟨rfl, fun q hq => (p_61 q hq)⟩) (Nat.le_of_ble_eq_true rfl) (Nat.le_of_ble_eq_true rfl) dX10_join_33
set_option maxRecDepth 100000 in
set_option maxHeartbeats 4000000 in
theorem c_X10_scale (l : Launch) (D : va_G) (G : Nat → Nat) (b0 : Nat) (f : hM) (X : Nat → Nat) (hX : xw G f X) (p0 : Int32) (p1 : Int32) : mI l yX10_scale cX10_scale 6 (.int) { frames := 2, cells := 0, slots := 0, locals := 43 } D G b0 f [.ref (X 0), .int p0, .int p1] (fun r f1 => (-1 : Int32) = r ∧ ∀ q, (∀ i, i ∈ XI → q ≠ X i) → f1 q = f q) := by
  refine met_of (own := RX10) (by decide) rfl (Nat.le_of_ble_eq_true rfl) ?_
  intro p e s m below meth c ls C hr hini hl h
  have hl : lv_has ls 6 [(0, .ref (X 0)), (1, .int p0), (2, .int p1)] := hl
  obtain ⟨hx, hb, hml, hown, hts, hE0, hlk⟩ := id C
  obtain ⟨kx0, kx1, kx2, kx3, kx4, kx5, kx6, kx7, kx8, kx9⟩ := hX
  refine lv_aload_n hx hb dX10_scale_0 rfl (lv_at hl 0 rfl) ?_
  refine q_get C h kx0 fl_X10_19 (v := .ref (X 2)) rfl dX10_scale_1 ?_
  refine lv_iload_n hx hb dX10_scale_4 rfl (lv_at hl 1 rfl) ?_
  refine k_q (r_V C h hl (As := [.int p0]) (rest := []) (c_X0_find l D G b0 f X ⟨kx0, kx1, kx2, kx3, kx4, kx5, kx6, kx7, kx8, kx9⟩ p0) kx2 (Cn := RX0) (T := TX0) (N := 6) rfl rfl mk_X0_find w_594 w_595 w_596 w_597 ⟨Nat.le_of_ble_eq_true rfl, Nat.le_of_ble_eq_true rfl⟩ rfl (Nat.le_of_ble_eq_true rfl) ⟨Nat.le_of_ble_eq_true rfl, Nat.le_of_ble_eq_true rfl⟩ rfl dX10_scale_5) h (fun r_62 f_63 H locs p_64 h => ?_)
  obtain ⟨rfl, rfl⟩ := p_64
  refine lv_astore_nN (lv' := [(3, .null), (0, .ref (X 0)), (1, .int p0), (2, .int p1)]) hx hb dX10_scale_8 rfl hl (by decide) rfl (fun ls hl => ?_)
  refine lv_aload_nN hx hb dX10_scale_9 rfl (lv_at hl 0 rfl) ?_
  refine lv_ifnonnullN hx hb dX10_scale_10 ?_
  refine lv_aload_n hx hb dX10_scale_13 rfl (lv_at hl 1 rfl) ?_
  refine lv_iconst (v := 0) hx hb dX10_scale_14 (by decide) ?_
  refine k_i (r_V C h hl (As := [.int 0]) (rest := []) (c_X10_refuse l D G b0 f X ⟨kx0, kx1, kx2, kx3, kx4, kx5, kx6, kx7, kx8, kx9⟩ ) kx0 (Cn := RX10) (T := TX10) (N := 10) rfl rfl mk_X10_refuse w_519 w_521 w_8 w_522 ⟨Nat.le_of_ble_eq_true rfl, Nat.le_of_ble_eq_true rfl⟩ rfl (Nat.le_of_ble_eq_true rfl) ⟨Nat.le_of_ble_eq_true rfl, Nat.le_of_ble_eq_true rfl⟩ rfl dX10_scale_15) h (fun r_65 f_66 H locs p_67 h => ?_)
  obtain ⟨rfl, p_67⟩ := p_67
  exact q_iret C h hr (⟨rfl, fun q hq => (p_67 q hq)⟩) (Nat.le_of_ble_eq_true rfl) (Nat.le_of_ble_eq_true rfl) dX10_scale_18
set_option maxRecDepth 100000 in
set_option maxHeartbeats 4000000 in
theorem c_X10_weigh (l : Launch) (D : va_G) (G : Nat → Nat) (b0 : Nat) (f : hM) (X : Nat → Nat) (hX : xw G f X) (p0 : Int32) (p1 : Int32) (p2 : Int32) : mI l yX10_weigh cX10_weigh 7 (.int) { frames := 2, cells := 0, slots := 0, locals := 43 } D G b0 f [.ref (X 0), .int p0, .int p1, .int p2] (fun r f1 => (-1 : Int32) = r ∧ ∀ q, (∀ i, i ∈ XI → q ≠ X i) → f1 q = f q) := by
  refine met_of (own := RX10) (by decide) rfl (Nat.le_of_ble_eq_true rfl) ?_
  intro p e s m below meth c ls C hr hini hl h
  have hl : lv_has ls 7 [(0, .ref (X 0)), (1, .int p0), (2, .int p1), (3, .int p2)] := hl
  obtain ⟨hx, hb, hml, hown, hts, hE0, hlk⟩ := id C
  obtain ⟨kx0, kx1, kx2, kx3, kx4, kx5, kx6, kx7, kx8, kx9⟩ := hX
  refine lv_aload_n hx hb dX10_weigh_0 rfl (lv_at hl 0 rfl) ?_
  refine q_get C h kx0 fl_X10_19 (v := .ref (X 2)) rfl dX10_weigh_1 ?_
  refine lv_iload_n hx hb dX10_weigh_4 rfl (lv_at hl 1 rfl) ?_
  refine k_q (r_V C h hl (As := [.int p0]) (rest := []) (c_X0_find l D G b0 f X ⟨kx0, kx1, kx2, kx3, kx4, kx5, kx6, kx7, kx8, kx9⟩ p0) kx2 (Cn := RX0) (T := TX0) (N := 6) rfl rfl mk_X0_find w_594 w_595 w_596 w_597 ⟨Nat.le_of_ble_eq_true rfl, Nat.le_of_ble_eq_true rfl⟩ rfl (Nat.le_of_ble_eq_true rfl) ⟨Nat.le_of_ble_eq_true rfl, Nat.le_of_ble_eq_true rfl⟩ rfl dX10_weigh_5) h (fun r_68 f_69 H locs p_70 h => ?_)
  obtain ⟨rfl, rfl⟩ := p_70
  refine lv_astoreN (lv' := [(4, .null), (0, .ref (X 0)), (1, .int p0), (2, .int p1), (3, .int p2)]) hx hb dX10_weigh_8 hl (by decide) rfl (fun ls hl => ?_)
  refine lv_aloadN hx hb dX10_weigh_10 (lv_at hl 0 rfl) ?_
  refine lv_ifnonnullN hx hb dX10_weigh_12 ?_
  refine lv_aload_n hx hb dX10_weigh_15 rfl (lv_at hl 1 rfl) ?_
  refine lv_iconst (v := 0) hx hb dX10_weigh_16 (by decide) ?_
  refine k_i (r_V C h hl (As := [.int 0]) (rest := []) (c_X10_refuse l D G b0 f X ⟨kx0, kx1, kx2, kx3, kx4, kx5, kx6, kx7, kx8, kx9⟩ ) kx0 (Cn := RX10) (T := TX10) (N := 10) rfl rfl mk_X10_refuse w_519 w_521 w_8 w_522 ⟨Nat.le_of_ble_eq_true rfl, Nat.le_of_ble_eq_true rfl⟩ rfl (Nat.le_of_ble_eq_true rfl) ⟨Nat.le_of_ble_eq_true rfl, Nat.le_of_ble_eq_true rfl⟩ rfl dX10_weigh_17) h (fun r_71 f_72 H locs p_73 h => ?_)
  obtain ⟨rfl, p_73⟩ := p_73
  exact q_iret C h hr (⟨rfl, fun q hq => (p_73 q hq)⟩) (Nat.le_of_ble_eq_true rfl) (Nat.le_of_ble_eq_true rfl) dX10_weigh_20
set_option maxRecDepth 100000 in
set_option maxHeartbeats 4000000 in
theorem c_X10_start (l : Launch) (D : va_G) (G : Nat → Nat) (b0 : Nat) (f : hM) (X : Nat → Nat) (hX : xw G f X) (p0 : Int32) (p1 : Int32) (p2 : Int32) : mI l yX10_start cX10_start 5 (.int) { frames := 2, cells := 0, slots := 0, locals := 43 } D G b0 f [.ref (X 0), .int p0, .int p1, .int p2] (fun r f1 => (-1 : Int32) = r ∧ ∀ q, (∀ i, i ∈ XI → q ≠ X i) → f1 q = f q) := by
  refine met_of (own := RX10) (by decide) rfl (Nat.le_of_ble_eq_true rfl) ?_
  intro p e s m below meth c ls C hr hini hl h
  have hl : lv_has ls 5 [(0, .ref (X 0)), (1, .int p0), (2, .int p1), (3, .int p2)] := hl
  obtain ⟨hx, hb, hml, hown, hts, hE0, hlk⟩ := id C
  obtain ⟨kx0, kx1, kx2, kx3, kx4, kx5, kx6, kx7, kx8, kx9⟩ := hX
  refine lv_aload_n hx hb dX10_start_0 rfl (lv_at hl 0 rfl) ?_
  refine q_get C h kx0 fl_X10_19 (v := .ref (X 2)) rfl dX10_start_1 ?_
  refine lv_iload_n hx hb dX10_start_4 rfl (lv_at hl 1 rfl) ?_
  refine k_q (r_V C h hl (As := [.int p0]) (rest := []) (c_X0_find l D G b0 f X ⟨kx0, kx1, kx2, kx3, kx4, kx5, kx6, kx7, kx8, kx9⟩ p0) kx2 (Cn := RX0) (T := TX0) (N := 6) rfl rfl mk_X0_find w_594 w_595 w_596 w_597 ⟨Nat.le_of_ble_eq_true rfl, Nat.le_of_ble_eq_true rfl⟩ rfl (Nat.le_of_ble_eq_true rfl) ⟨Nat.le_of_ble_eq_true rfl, Nat.le_of_ble_eq_true rfl⟩ rfl dX10_start_5) h (fun r_74 f_75 H locs p_76 h => ?_)
  obtain ⟨rfl, rfl⟩ := p_76
  refine lv_astoreN (lv' := [(4, .null), (0, .ref (X 0)), (1, .int p0), (2, .int p1), (3, .int p2)]) hx hb dX10_start_8 hl (by decide) rfl (fun ls hl => ?_)
  refine lv_aloadN hx hb dX10_start_10 (lv_at hl 0 rfl) ?_
  refine lv_ifnonnullN hx hb dX10_start_12 ?_
  refine lv_aload_n hx hb dX10_start_15 rfl (lv_at hl 1 rfl) ?_
  refine lv_iconst (v := 0) hx hb dX10_start_16 (by decide) ?_
  refine k_i (r_V C h hl (As := [.int 0]) (rest := []) (c_X10_refuse l D G b0 f X ⟨kx0, kx1, kx2, kx3, kx4, kx5, kx6, kx7, kx8, kx9⟩ ) kx0 (Cn := RX10) (T := TX10) (N := 10) rfl rfl mk_X10_refuse w_519 w_521 w_8 w_522 ⟨Nat.le_of_ble_eq_true rfl, Nat.le_of_ble_eq_true rfl⟩ rfl (Nat.le_of_ble_eq_true rfl) ⟨Nat.le_of_ble_eq_true rfl, Nat.le_of_ble_eq_true rfl⟩ rfl dX10_start_17) h (fun r_77 f_78 H locs p_79 h => ?_)
  obtain ⟨rfl, p_79⟩ := p_79
  exact q_iret C h hr (⟨rfl, fun q hq => (p_79 q hq)⟩) (Nat.le_of_ble_eq_true rfl) (Nat.le_of_ble_eq_true rfl) dX10_start_20
set_option maxRecDepth 100000 in
set_option maxHeartbeats 4000000 in
theorem c_X10_at (l : Launch) (D : va_G) (G : Nat → Nat) (b0 : Nat) (f : hM) (X : Nat → Nat) (hX : xw G f X) (p0 : Int32) (p1 : Int32) (p2 : Int32) (p3 : Int32) (p4 : Int32) : mI l yX10_at cX10_at 7 (.int) { frames := 2, cells := 0, slots := 0, locals := 43 } D G b0 f [.ref (X 0), .int p0, .int p1, .int p2, .int p3, .int p4] (fun r f1 => (-1 : Int32) = r ∧ ∀ q, (∀ i, i ∈ XI → q ≠ X i) → f1 q = f q) := by
  refine met_of (own := RX10) (by decide) rfl (Nat.le_of_ble_eq_true rfl) ?_
  intro p e s m below meth c ls C hr hini hl h
  have hl : lv_has ls 7 [(0, .ref (X 0)), (1, .int p0), (2, .int p1), (3, .int p2), (4, .int p3), (5, .int p4)] := hl
  obtain ⟨hx, hb, hml, hown, hts, hE0, hlk⟩ := id C
  obtain ⟨kx0, kx1, kx2, kx3, kx4, kx5, kx6, kx7, kx8, kx9⟩ := hX
  refine lv_aload_n hx hb dX10_at_0 rfl (lv_at hl 0 rfl) ?_
  refine q_get C h kx0 fl_X10_19 (v := .ref (X 2)) rfl dX10_at_1 ?_
  refine lv_iload_n hx hb dX10_at_4 rfl (lv_at hl 2 rfl) ?_
  refine k_q (r_V C h hl (As := [.int p1]) (rest := []) (c_X0_find l D G b0 f X ⟨kx0, kx1, kx2, kx3, kx4, kx5, kx6, kx7, kx8, kx9⟩ p1) kx2 (Cn := RX0) (T := TX0) (N := 6) rfl rfl mk_X0_find w_594 w_595 w_596 w_597 ⟨Nat.le_of_ble_eq_true rfl, Nat.le_of_ble_eq_true rfl⟩ rfl (Nat.le_of_ble_eq_true rfl) ⟨Nat.le_of_ble_eq_true rfl, Nat.le_of_ble_eq_true rfl⟩ rfl dX10_at_5) h (fun r_80 f_81 H locs p_82 h => ?_)
  obtain ⟨rfl, rfl⟩ := p_82
  refine lv_astoreN (lv' := [(6, .null), (0, .ref (X 0)), (1, .int p0), (2, .int p1), (3, .int p2), (4, .int p3), (5, .int p4)]) hx hb dX10_at_8 hl (by decide) rfl (fun ls hl => ?_)
  refine lv_aloadN hx hb dX10_at_10 (lv_at hl 0 rfl) ?_
  refine lv_ifnullN (tgt := 41) hx hb dX10_at_12 (by decide) ?_
  refine lv_iconst (v := -1) hx hb dX10_at_41 (by decide) ?_
  exact q_iret C h hr (⟨rfl, fun q hq => rfl⟩) (Nat.le_of_ble_eq_true rfl) (Nat.le_of_ble_eq_true rfl) dX10_at_42
set_option maxRecDepth 100000 in
set_option maxHeartbeats 4000000 in
theorem c_X10_series (l : Launch) (D : va_G) (G : Nat → Nat) (b0 : Nat) (f : hM) (X : Nat → Nat) (hX : xw G f X) (p0 : Int32) (p1 : Int32) (p2 : Int32) : mI l yX10_series cX10_series 5 (.int) { frames := 2, cells := 0, slots := 0, locals := 43 } D G b0 f [.ref (X 0), .int p0, .int p1, .int p2] (fun r f1 => (-1 : Int32) = r ∧ ∀ q, (∀ i, i ∈ XI → q ≠ X i) → f1 q = f q) := by
  refine met_of (own := RX10) (by decide) rfl (Nat.le_of_ble_eq_true rfl) ?_
  intro p e s m below meth c ls C hr hini hl h
  have hl : lv_has ls 5 [(0, .ref (X 0)), (1, .int p0), (2, .int p1), (3, .int p2)] := hl
  obtain ⟨hx, hb, hml, hown, hts, hE0, hlk⟩ := id C
  obtain ⟨kx0, kx1, kx2, kx3, kx4, kx5, kx6, kx7, kx8, kx9⟩ := hX
  refine lv_aload_n hx hb dX10_series_0 rfl (lv_at hl 0 rfl) ?_
  refine q_get C h kx0 fl_X10_19 (v := .ref (X 2)) rfl dX10_series_1 ?_
  refine lv_iload_n hx hb dX10_series_4 rfl (lv_at hl 1 rfl) ?_
  refine k_q (r_V C h hl (As := [.int p0]) (rest := []) (c_X0_find l D G b0 f X ⟨kx0, kx1, kx2, kx3, kx4, kx5, kx6, kx7, kx8, kx9⟩ p0) kx2 (Cn := RX0) (T := TX0) (N := 6) rfl rfl mk_X0_find w_594 w_595 w_596 w_597 ⟨Nat.le_of_ble_eq_true rfl, Nat.le_of_ble_eq_true rfl⟩ rfl (Nat.le_of_ble_eq_true rfl) ⟨Nat.le_of_ble_eq_true rfl, Nat.le_of_ble_eq_true rfl⟩ rfl dX10_series_5) h (fun r_83 f_84 H locs p_85 h => ?_)
  obtain ⟨rfl, rfl⟩ := p_85
  refine lv_astoreN (lv' := [(4, .null), (0, .ref (X 0)), (1, .int p0), (2, .int p1), (3, .int p2)]) hx hb dX10_series_8 hl (by decide) rfl (fun ls hl => ?_)
  refine lv_aloadN hx hb dX10_series_10 (lv_at hl 0 rfl) ?_
  refine lv_ifnullN (tgt := 29) hx hb dX10_series_12 (by decide) ?_
  refine lv_iconst (v := -1) hx hb dX10_series_29 (by decide) ?_
  exact q_iret C h hr (⟨rfl, fun q hq => rfl⟩) (Nat.le_of_ble_eq_true rfl) (Nat.le_of_ble_eq_true rfl) dX10_series_30
set_option maxRecDepth 100000 in
set_option maxHeartbeats 4000000 in
theorem c_X10_exact (l : Launch) (D : va_G) (G : Nat → Nat) (b0 : Nat) (f : hM) (X : Nat → Nat) (hX : xw G f X) (p0 : Int32) (p1 : Int32) (p2 : Int32) (p3 : Int32) : mL l yX10_exact cX10_exact 6 { frames := 2, cells := 0, slots := 0, locals := 43 } D G b0 f [.ref (X 0), .int p0, .int p1, .int p2, .int p3] (fun r f1 => (-1 : Int64) = r ∧ ∀ q, (∀ i, i ∈ XI → q ≠ X i) → f1 q = f q) := by
  refine met_of (own := RX10) (by decide) rfl (Nat.le_of_ble_eq_true rfl) ?_
  intro p e s m below meth c ls C hr hini hl h
  have hl : lv_has ls 6 [(0, .ref (X 0)), (1, .int p0), (2, .int p1), (3, .int p2), (4, .int p3)] := hl
  obtain ⟨hx, hb, hml, hown, hts, hE0, hlk⟩ := id C
  obtain ⟨kx0, kx1, kx2, kx3, kx4, kx5, kx6, kx7, kx8, kx9⟩ := hX
  refine lv_aload_n hx hb dX10_exact_0 rfl (lv_at hl 0 rfl) ?_
  refine q_get C h kx0 fl_X10_19 (v := .ref (X 2)) rfl dX10_exact_1 ?_
  refine lv_iload_n hx hb dX10_exact_4 rfl (lv_at hl 1 rfl) ?_
  refine k_q (r_V C h hl (As := [.int p0]) (rest := []) (c_X0_find l D G b0 f X ⟨kx0, kx1, kx2, kx3, kx4, kx5, kx6, kx7, kx8, kx9⟩ p0) kx2 (Cn := RX0) (T := TX0) (N := 6) rfl rfl mk_X0_find w_594 w_595 w_596 w_597 ⟨Nat.le_of_ble_eq_true rfl, Nat.le_of_ble_eq_true rfl⟩ rfl (Nat.le_of_ble_eq_true rfl) ⟨Nat.le_of_ble_eq_true rfl, Nat.le_of_ble_eq_true rfl⟩ rfl dX10_exact_5) h (fun r_86 f_87 H locs p_88 h => ?_)
  obtain ⟨rfl, rfl⟩ := p_88
  refine lv_astoreN (lv' := [(5, .null), (0, .ref (X 0)), (1, .int p0), (2, .int p1), (3, .int p2), (4, .int p3)]) hx hb dX10_exact_8 hl (by decide) rfl (fun ls hl => ?_)
  refine lv_aloadN hx hb dX10_exact_10 (lv_at hl 0 rfl) ?_
  refine lv_ifnullN (tgt := 43) hx hb dX10_exact_12 (by decide) ?_
  refine lv_ldc2 (v := -1) hx hb hown (hts _ w_757) dX10_exact_43 ?_
  exact q_lret C h hr (⟨rfl, fun q hq => rfl⟩) (Nat.le_of_ble_eq_true rfl) (Nat.le_of_ble_eq_true rfl) dX10_exact_46
set_option maxRecDepth 100000 in
set_option maxHeartbeats 4000000 in
theorem c_X10_bridge (l : Launch) (D : va_G) (G : Nat → Nat) (b0 : Nat) (f : hM) (X : Nat → Nat) (hX : xw G f X) (p0 : Int32) (p1 : Int32) (p2 : Int32) (p3 : Int32) : mI l yX10_bridge cX10_bridge 6 (.int) { frames := 2, cells := 0, slots := 0, locals := 43 } D G b0 f [.ref (X 0), .int p0, .int p1, .int p2, .int p3] (fun r f1 => (-1 : Int32) = r ∧ ∀ q, (∀ i, i ∈ XI → q ≠ X i) → f1 q = f q) := by
  refine met_of (own := RX10) (by decide) rfl (Nat.le_of_ble_eq_true rfl) ?_
  intro p e s m below meth c ls C hr hini hl h
  have hl : lv_has ls 6 [(0, .ref (X 0)), (1, .int p0), (2, .int p1), (3, .int p2), (4, .int p3)] := hl
  obtain ⟨hx, hb, hml, hown, hts, hE0, hlk⟩ := id C
  obtain ⟨kx0, kx1, kx2, kx3, kx4, kx5, kx6, kx7, kx8, kx9⟩ := hX
  refine lv_aload_n hx hb dX10_bridge_0 rfl (lv_at hl 0 rfl) ?_
  refine q_get C h kx0 fl_X10_19 (v := .ref (X 2)) rfl dX10_bridge_1 ?_
  refine lv_iload_n hx hb dX10_bridge_4 rfl (lv_at hl 1 rfl) ?_
  refine k_q (r_V C h hl (As := [.int p0]) (rest := []) (c_X0_find l D G b0 f X ⟨kx0, kx1, kx2, kx3, kx4, kx5, kx6, kx7, kx8, kx9⟩ p0) kx2 (Cn := RX0) (T := TX0) (N := 6) rfl rfl mk_X0_find w_594 w_595 w_596 w_597 ⟨Nat.le_of_ble_eq_true rfl, Nat.le_of_ble_eq_true rfl⟩ rfl (Nat.le_of_ble_eq_true rfl) ⟨Nat.le_of_ble_eq_true rfl, Nat.le_of_ble_eq_true rfl⟩ rfl dX10_bridge_5) h (fun r_89 f_90 H locs p_91 h => ?_)
  obtain ⟨rfl, rfl⟩ := p_91
  refine lv_astoreN (lv' := [(5, .null), (0, .ref (X 0)), (1, .int p0), (2, .int p1), (3, .int p2), (4, .int p3)]) hx hb dX10_bridge_8 hl (by decide) rfl (fun ls hl => ?_)
  refine lv_aloadN hx hb dX10_bridge_10 (lv_at hl 0 rfl) ?_
  refine lv_ifnullN (tgt := 31) hx hb dX10_bridge_12 (by decide) ?_
  refine lv_iconst (v := -1) hx hb dX10_bridge_31 (by decide) ?_
  exact q_iret C h hr (⟨rfl, fun q hq => rfl⟩) (Nat.le_of_ble_eq_true rfl) (Nat.le_of_ble_eq_true rfl) dX10_bridge_32
set_option maxRecDepth 100000 in
set_option maxHeartbeats 4000000 in
theorem c_X10_reflected (l : Launch) (D : va_G) (G : Nat → Nat) (b0 : Nat) (f : hM) (X : Nat → Nat) (hX : xw G f X) (p0 : Int32) (p1 : Int32) (p2 : Int32) (p3 : Int32) : mI l yX10_reflected cX10_reflected 10 (.int) { frames := 2, cells := 0, slots := 0, locals := 43 } D G b0 f [.ref (X 0), .int p0, .int p1, .int p2, .int p3] (fun r f1 => (-1000000 : Int32) = r ∧ ∀ q, (∀ i, i ∈ XI → q ≠ X i) → f1 q = f q) := by
  refine met_of (own := RX10) (by decide) rfl (Nat.le_of_ble_eq_true rfl) ?_
  intro p e s m below meth c ls C hr hini hl h
  have hl : lv_has ls 10 [(0, .ref (X 0)), (1, .int p0), (2, .int p1), (3, .int p2), (4, .int p3)] := hl
  obtain ⟨hx, hb, hml, hown, hts, hE0, hlk⟩ := id C
  obtain ⟨kx0, kx1, kx2, kx3, kx4, kx5, kx6, kx7, kx8, kx9⟩ := hX
  refine lv_aload_n hx hb dX10_reflected_0 rfl (lv_at hl 0 rfl) ?_
  refine q_get C h kx0 fl_X10_19 (v := .ref (X 2)) rfl dX10_reflected_1 ?_
  refine lv_iload_n hx hb dX10_reflected_4 rfl (lv_at hl 1 rfl) ?_
  refine k_q (r_V C h hl (As := [.int p0]) (rest := []) (c_X0_find l D G b0 f X ⟨kx0, kx1, kx2, kx3, kx4, kx5, kx6, kx7, kx8, kx9⟩ p0) kx2 (Cn := RX0) (T := TX0) (N := 6) rfl rfl mk_X0_find w_594 w_595 w_596 w_597 ⟨Nat.le_of_ble_eq_true rfl, Nat.le_of_ble_eq_true rfl⟩ rfl (Nat.le_of_ble_eq_true rfl) ⟨Nat.le_of_ble_eq_true rfl, Nat.le_of_ble_eq_true rfl⟩ rfl dX10_reflected_5) h (fun r_92 f_93 H locs p_94 h => ?_)
  obtain ⟨rfl, rfl⟩ := p_94
  refine lv_astoreN (lv' := [(5, .null), (0, .ref (X 0)), (1, .int p0), (2, .int p1), (3, .int p2), (4, .int p3)]) hx hb dX10_reflected_8 hl (by decide) rfl (fun ls hl => ?_)
  refine lv_aloadN hx hb dX10_reflected_10 (lv_at hl 0 rfl) ?_
  refine lv_ifnullN (tgt := 43) hx hb dX10_reflected_12 (by decide) ?_
  refine lv_ldc (v := -1000000) hx hb hown (hts _ w_772) dX10_reflected_43 ?_
  exact q_iret C h hr (⟨rfl, fun q hq => rfl⟩) (Nat.le_of_ble_eq_true rfl) (Nat.le_of_ble_eq_true rfl) dX10_reflected_45
set_option maxRecDepth 100000 in
set_option maxHeartbeats 4000000 in
theorem c_X10_rank (l : Launch) (D : va_G) (G : Nat → Nat) (b0 : Nat) (f : hM) (X : Nat → Nat) (hX : xw G f X) (p0 : Int32) (p1 : Int32) : mI l yX10_rank cX10_rank 6 (.int) { frames := 2, cells := 0, slots := 0, locals := 43 } D G b0 f [.ref (X 0), .int p0, .int p1] (fun r f1 => (-1 : Int32) = r ∧ ∀ q, (∀ i, i ∈ XI → q ≠ X i) → f1 q = f q) := by
  refine met_of (own := RX10) (by decide) rfl (Nat.le_of_ble_eq_true rfl) ?_
  intro p e s m below meth c ls C hr hini hl h
  have hl : lv_has ls 6 [(0, .ref (X 0)), (1, .int p0), (2, .int p1)] := hl
  obtain ⟨hx, hb, hml, hown, hts, hE0, hlk⟩ := id C
  obtain ⟨kx0, kx1, kx2, kx3, kx4, kx5, kx6, kx7, kx8, kx9⟩ := hX
  refine lv_aload_n hx hb dX10_rank_0 rfl (lv_at hl 0 rfl) ?_
  refine q_get C h kx0 fl_X10_19 (v := .ref (X 2)) rfl dX10_rank_1 ?_
  refine lv_iload_n hx hb dX10_rank_4 rfl (lv_at hl 1 rfl) ?_
  refine k_q (r_V C h hl (As := [.int p0]) (rest := []) (c_X0_find l D G b0 f X ⟨kx0, kx1, kx2, kx3, kx4, kx5, kx6, kx7, kx8, kx9⟩ p0) kx2 (Cn := RX0) (T := TX0) (N := 6) rfl rfl mk_X0_find w_594 w_595 w_596 w_597 ⟨Nat.le_of_ble_eq_true rfl, Nat.le_of_ble_eq_true rfl⟩ rfl (Nat.le_of_ble_eq_true rfl) ⟨Nat.le_of_ble_eq_true rfl, Nat.le_of_ble_eq_true rfl⟩ rfl dX10_rank_5) h (fun r_95 f_96 H locs p_97 h => ?_)
  obtain ⟨rfl, rfl⟩ := p_97
  refine lv_astore_nN (lv' := [(3, .null), (0, .ref (X 0)), (1, .int p0), (2, .int p1)]) hx hb dX10_rank_8 rfl hl (by decide) rfl (fun ls hl => ?_)
  refine lv_aload_nN hx hb dX10_rank_9 rfl (lv_at hl 0 rfl) ?_
  refine lv_ifnullN (tgt := 23) hx hb dX10_rank_10 (by decide) ?_
  refine lv_iconst (v := -1) hx hb dX10_rank_23 (by decide) ?_
  exact q_iret C h hr (⟨rfl, fun q hq => rfl⟩) (Nat.le_of_ble_eq_true rfl) (Nat.le_of_ble_eq_true rfl) dX10_rank_24
set_option maxRecDepth 100000 in
set_option maxHeartbeats 4000000 in
theorem c_X10_ratio (l : Launch) (D : va_G) (G : Nat → Nat) (b0 : Nat) (f : hM) (X : Nat → Nat) (hX : xw G f X) (p0 : Int32) (p1 : Int32) (p2 : Int32) : mI l yX10_ratio cX10_ratio 6 (.int) { frames := 2, cells := 0, slots := 0, locals := 43 } D G b0 f [.ref (X 0), .int p0, .int p1, .int p2] (fun r f1 => (-1 : Int32) = r ∧ ∀ q, (∀ i, i ∈ XI → q ≠ X i) → f1 q = f q) := by
  refine met_of (own := RX10) (by decide) rfl (Nat.le_of_ble_eq_true rfl) ?_
  intro p e s m below meth c ls C hr hini hl h
  have hl : lv_has ls 6 [(0, .ref (X 0)), (1, .int p0), (2, .int p1), (3, .int p2)] := hl
  obtain ⟨hx, hb, hml, hown, hts, hE0, hlk⟩ := id C
  obtain ⟨kx0, kx1, kx2, kx3, kx4, kx5, kx6, kx7, kx8, kx9⟩ := hX
  refine lv_aload_n hx hb dX10_ratio_0 rfl (lv_at hl 0 rfl) ?_
  refine q_get C h kx0 fl_X10_19 (v := .ref (X 2)) rfl dX10_ratio_1 ?_
  refine lv_iload_n hx hb dX10_ratio_4 rfl (lv_at hl 1 rfl) ?_
  refine k_q (r_V C h hl (As := [.int p0]) (rest := []) (c_X0_find l D G b0 f X ⟨kx0, kx1, kx2, kx3, kx4, kx5, kx6, kx7, kx8, kx9⟩ p0) kx2 (Cn := RX0) (T := TX0) (N := 6) rfl rfl mk_X0_find w_594 w_595 w_596 w_597 ⟨Nat.le_of_ble_eq_true rfl, Nat.le_of_ble_eq_true rfl⟩ rfl (Nat.le_of_ble_eq_true rfl) ⟨Nat.le_of_ble_eq_true rfl, Nat.le_of_ble_eq_true rfl⟩ rfl dX10_ratio_5) h (fun r_98 f_99 H locs p_100 h => ?_)
  obtain ⟨rfl, rfl⟩ := p_100
  refine lv_astoreN (lv' := [(4, .null), (0, .ref (X 0)), (1, .int p0), (2, .int p1), (3, .int p2)]) hx hb dX10_ratio_8 hl (by decide) rfl (fun ls hl => ?_)
  refine lv_aloadN hx hb dX10_ratio_10 (lv_at hl 0 rfl) ?_
  refine lv_ifnullN (tgt := 32) hx hb dX10_ratio_12 (by decide) ?_
  refine lv_iconst (v := -1) hx hb dX10_ratio_32 (by decide) ?_
  exact q_iret C h hr (⟨rfl, fun q hq => rfl⟩) (Nat.le_of_ble_eq_true rfl) (Nat.le_of_ble_eq_true rfl) dX10_ratio_33
set_option maxRecDepth 100000 in
set_option maxHeartbeats 4000000 in
theorem c_X10_hankel (l : Launch) (D : va_G) (G : Nat → Nat) (b0 : Nat) (f : hM) (X : Nat → Nat) (hX : xw G f X) (p0 : Int32) (p1 : Int32) (p2 : Int32) : mI l yX10_hankel cX10_hankel 7 (.int) { frames := 2, cells := 0, slots := 0, locals := 43 } D G b0 f [.ref (X 0), .int p0, .int p1, .int p2] (fun r f1 => (-1 : Int32) = r ∧ ∀ q, (∀ i, i ∈ XI → q ≠ X i) → f1 q = f q) := by
  refine met_of (own := RX10) (by decide) rfl (Nat.le_of_ble_eq_true rfl) ?_
  intro p e s m below meth c ls C hr hini hl h
  have hl : lv_has ls 7 [(0, .ref (X 0)), (1, .int p0), (2, .int p1), (3, .int p2)] := hl
  obtain ⟨hx, hb, hml, hown, hts, hE0, hlk⟩ := id C
  obtain ⟨kx0, kx1, kx2, kx3, kx4, kx5, kx6, kx7, kx8, kx9⟩ := hX
  refine lv_aload_n hx hb dX10_hankel_0 rfl (lv_at hl 0 rfl) ?_
  refine q_get C h kx0 fl_X10_19 (v := .ref (X 2)) rfl dX10_hankel_1 ?_
  refine lv_iload_n hx hb dX10_hankel_4 rfl (lv_at hl 1 rfl) ?_
  refine k_q (r_V C h hl (As := [.int p0]) (rest := []) (c_X0_find l D G b0 f X ⟨kx0, kx1, kx2, kx3, kx4, kx5, kx6, kx7, kx8, kx9⟩ p0) kx2 (Cn := RX0) (T := TX0) (N := 6) rfl rfl mk_X0_find w_594 w_595 w_596 w_597 ⟨Nat.le_of_ble_eq_true rfl, Nat.le_of_ble_eq_true rfl⟩ rfl (Nat.le_of_ble_eq_true rfl) ⟨Nat.le_of_ble_eq_true rfl, Nat.le_of_ble_eq_true rfl⟩ rfl dX10_hankel_5) h (fun r_101 f_102 H locs p_103 h => ?_)
  obtain ⟨rfl, rfl⟩ := p_103
  refine lv_astoreN (lv' := [(4, .null), (0, .ref (X 0)), (1, .int p0), (2, .int p1), (3, .int p2)]) hx hb dX10_hankel_8 hl (by decide) rfl (fun ls hl => ?_)
  refine lv_aloadN hx hb dX10_hankel_10 (lv_at hl 0 rfl) ?_
  refine lv_ifnullN (tgt := 32) hx hb dX10_hankel_12 (by decide) ?_
  refine lv_iconst (v := -1) hx hb dX10_hankel_32 (by decide) ?_
  exact q_iret C h hr (⟨rfl, fun q hq => rfl⟩) (Nat.le_of_ble_eq_true rfl) (Nat.le_of_ble_eq_true rfl) dX10_hankel_33
set_option maxRecDepth 100000 in
set_option maxHeartbeats 4000000 in
theorem c_X10_convolved (l : Launch) (D : va_G) (G : Nat → Nat) (b0 : Nat) (f : hM) (X : Nat → Nat) (hX : xw G f X) (p0 : Int32) (p1 : Int32) (p2 : Int32) (p3 : Int32) (p4 : Int32) : mI l yX10_convolved cX10_convolved 11 (.int) { frames := 2, cells := 0, slots := 0, locals := 43 } D G b0 f [.ref (X 0), .int p0, .int p1, .int p2, .int p3, .int p4] (fun r f1 => (-1 : Int32) = r ∧ ∀ q, (∀ i, i ∈ XI → q ≠ X i) → f1 q = f q) := by
  refine met_of (own := RX10) (by decide) rfl (Nat.le_of_ble_eq_true rfl) ?_
  intro p e s m below meth c ls C hr hini hl h
  have hl : lv_has ls 11 [(0, .ref (X 0)), (1, .int p0), (2, .int p1), (3, .int p2), (4, .int p3), (5, .int p4)] := hl
  obtain ⟨hx, hb, hml, hown, hts, hE0, hlk⟩ := id C
  obtain ⟨kx0, kx1, kx2, kx3, kx4, kx5, kx6, kx7, kx8, kx9⟩ := hX
  refine lv_aload_n hx hb dX10_convolved_0 rfl (lv_at hl 0 rfl) ?_
  refine q_get C h kx0 fl_X10_19 (v := .ref (X 2)) rfl dX10_convolved_1 ?_
  refine lv_iload_n hx hb dX10_convolved_4 rfl (lv_at hl 1 rfl) ?_
  refine k_q (r_V C h hl (As := [.int p0]) (rest := []) (c_X0_find l D G b0 f X ⟨kx0, kx1, kx2, kx3, kx4, kx5, kx6, kx7, kx8, kx9⟩ p0) kx2 (Cn := RX0) (T := TX0) (N := 6) rfl rfl mk_X0_find w_594 w_595 w_596 w_597 ⟨Nat.le_of_ble_eq_true rfl, Nat.le_of_ble_eq_true rfl⟩ rfl (Nat.le_of_ble_eq_true rfl) ⟨Nat.le_of_ble_eq_true rfl, Nat.le_of_ble_eq_true rfl⟩ rfl dX10_convolved_5) h (fun r_104 f_105 H locs p_106 h => ?_)
  obtain ⟨rfl, rfl⟩ := p_106
  refine lv_astoreN (lv' := [(6, .null), (0, .ref (X 0)), (1, .int p0), (2, .int p1), (3, .int p2), (4, .int p3), (5, .int p4)]) hx hb dX10_convolved_8 hl (by decide) rfl (fun ls hl => ?_)
  refine lv_aload_n hx hb dX10_convolved_10 rfl (lv_at hl 1 rfl) ?_
  refine q_get C h kx0 fl_X10_19 (v := .ref (X 2)) rfl dX10_convolved_11 ?_
  refine lv_iload_n hx hb dX10_convolved_14 rfl (lv_at hl 4 rfl) ?_
  refine k_q (r_V C h hl (As := [.int p2]) (rest := []) (c_X0_find l D G b0 f X ⟨kx0, kx1, kx2, kx3, kx4, kx5, kx6, kx7, kx8, kx9⟩ p2) kx2 (Cn := RX0) (T := TX0) (N := 6) rfl rfl mk_X0_find w_594 w_595 w_596 w_597 ⟨Nat.le_of_ble_eq_true rfl, Nat.le_of_ble_eq_true rfl⟩ rfl (Nat.le_of_ble_eq_true rfl) ⟨Nat.le_of_ble_eq_true rfl, Nat.le_of_ble_eq_true rfl⟩ rfl dX10_convolved_15) h (fun r_107 f_108 H locs p_109 h => ?_)
  obtain ⟨rfl, rfl⟩ := p_109
  refine lv_astoreN (lv' := [(7, .null), (6, .null), (0, .ref (X 0)), (1, .int p0), (2, .int p1), (3, .int p2), (4, .int p3), (5, .int p4)]) hx hb dX10_convolved_18 hl (by decide) rfl (fun ls hl => ?_)
  refine lv_aloadN hx hb dX10_convolved_20 (lv_at hl 1 rfl) ?_
  refine lv_ifnullN (tgt := 53) hx hb dX10_convolved_22 (by decide) ?_
  refine lv_iconst (v := -1) hx hb dX10_convolved_53 (by decide) ?_
  exact q_iret C h hr (⟨rfl, fun q hq => rfl⟩) (Nat.le_of_ble_eq_true rfl) (Nat.le_of_ble_eq_true rfl) dX10_convolved_54
set_option maxRecDepth 100000 in
set_option maxHeartbeats 4000000 in
theorem c_X10_out (l : Launch) (D : va_G) (G : Nat → Nat) (b0 : Nat) (f : hM) (X : Nat → Nat) (hX : xw G f X) (p0 : Int32) (p1 : Int32) : mI l yX10_out cX10_out 4 (.int) { frames := 2, cells := 0, slots := 0, locals := 43 } D G b0 f [.ref (X 0), .int p0, .int p1] (fun r f1 => (-1 : Int32) = r ∧ ∀ q, (∀ i, i ∈ XI → q ≠ X i) → f1 q = f q) := by
  refine met_of (own := RX10) (by decide) rfl (Nat.le_of_ble_eq_true rfl) ?_
  intro p e s m below meth c ls C hr hini hl h
  have hl : lv_has ls 4 [(0, .ref (X 0)), (1, .int p0), (2, .int p1)] := hl
  obtain ⟨hx, hb, hml, hown, hts, hE0, hlk⟩ := id C
  obtain ⟨kx0, kx1, kx2, kx3, kx4, kx5, kx6, kx7, kx8, kx9⟩ := hX
  refine lv_aload_n hx hb dX10_out_0 rfl (lv_at hl 0 rfl) ?_
  refine q_get C h kx0 fl_X10_19 (v := .ref (X 2)) rfl dX10_out_1 ?_
  refine lv_iload_n hx hb dX10_out_4 rfl (lv_at hl 1 rfl) ?_
  refine k_q (r_V C h hl (As := [.int p0]) (rest := []) (c_X0_find l D G b0 f X ⟨kx0, kx1, kx2, kx3, kx4, kx5, kx6, kx7, kx8, kx9⟩ p0) kx2 (Cn := RX0) (T := TX0) (N := 6) rfl rfl mk_X0_find w_594 w_595 w_596 w_597 ⟨Nat.le_of_ble_eq_true rfl, Nat.le_of_ble_eq_true rfl⟩ rfl (Nat.le_of_ble_eq_true rfl) ⟨Nat.le_of_ble_eq_true rfl, Nat.le_of_ble_eq_true rfl⟩ rfl dX10_out_5) h (fun r_110 f_111 H locs p_112 h => ?_)
  obtain ⟨rfl, rfl⟩ := p_112
  refine lv_astore_nN (lv' := [(3, .null), (0, .ref (X 0)), (1, .int p0), (2, .int p1)]) hx hb dX10_out_8 rfl hl (by decide) rfl (fun ls hl => ?_)
  refine lv_aload_nN hx hb dX10_out_9 rfl (lv_at hl 0 rfl) ?_
  refine lv_ifnullN (tgt := 20) hx hb dX10_out_10 (by decide) ?_
  refine lv_iconst (v := -1) hx hb dX10_out_20 (by decide) ?_
  exact q_iret C h hr (⟨rfl, fun q hq => rfl⟩) (Nat.le_of_ble_eq_true rfl) (Nat.le_of_ble_eq_true rfl) dX10_out_21
set_option maxRecDepth 100000 in
set_option maxHeartbeats 4000000 in
theorem c_X10_arches (l : Launch) (D : va_G) (G : Nat → Nat) (b0 : Nat) (f : hM) (X : Nat → Nat) (hX : xw G f X) (p0 : Int32) (p1 : Int32) : mI l yX10_arches cX10_arches 8 (.int) { frames := 2, cells := 0, slots := 0, locals := 43 } D G b0 f [.ref (X 0), .int p0, .int p1] (fun r f1 => (-1 : Int32) = r ∧ ∀ q, (∀ i, i ∈ XI → q ≠ X i) → f1 q = f q) := by
  refine met_of (own := RX10) (by decide) rfl (Nat.le_of_ble_eq_true rfl) ?_
  intro p e s m below meth c ls C hr hini hl h
  have hl : lv_has ls 8 [(0, .ref (X 0)), (1, .int p0), (2, .int p1)] := hl
  obtain ⟨hx, hb, hml, hown, hts, hE0, hlk⟩ := id C
  obtain ⟨kx0, kx1, kx2, kx3, kx4, kx5, kx6, kx7, kx8, kx9⟩ := hX
  refine lv_aload_n hx hb dX10_arches_0 rfl (lv_at hl 0 rfl) ?_
  refine q_get C h kx0 fl_X10_19 (v := .ref (X 2)) rfl dX10_arches_1 ?_
  refine lv_iload_n hx hb dX10_arches_4 rfl (lv_at hl 1 rfl) ?_
  refine k_q (r_V C h hl (As := [.int p0]) (rest := []) (c_X0_find l D G b0 f X ⟨kx0, kx1, kx2, kx3, kx4, kx5, kx6, kx7, kx8, kx9⟩ p0) kx2 (Cn := RX0) (T := TX0) (N := 6) rfl rfl mk_X0_find w_594 w_595 w_596 w_597 ⟨Nat.le_of_ble_eq_true rfl, Nat.le_of_ble_eq_true rfl⟩ rfl (Nat.le_of_ble_eq_true rfl) ⟨Nat.le_of_ble_eq_true rfl, Nat.le_of_ble_eq_true rfl⟩ rfl dX10_arches_5) h (fun r_113 f_114 H locs p_115 h => ?_)
  obtain ⟨rfl, rfl⟩ := p_115
  refine lv_astore_nN (lv' := [(3, .null), (0, .ref (X 0)), (1, .int p0), (2, .int p1)]) hx hb dX10_arches_8 rfl hl (by decide) rfl (fun ls hl => ?_)
  refine lv_aload_nN hx hb dX10_arches_9 rfl (lv_at hl 0 rfl) ?_
  refine lv_ifnullN (tgt := 23) hx hb dX10_arches_10 (by decide) ?_
  refine lv_iconst (v := -1) hx hb dX10_arches_23 (by decide) ?_
  exact q_iret C h hr (⟨rfl, fun q hq => rfl⟩) (Nat.le_of_ble_eq_true rfl) (Nat.le_of_ble_eq_true rfl) dX10_arches_24
set_option maxRecDepth 100000 in
set_option maxHeartbeats 4000000 in
theorem c_X10_value (l : Launch) (D : va_G) (G : Nat → Nat) (b0 : Nat) (f : hM) (X : Nat → Nat) (hX : xw G f X) (p0 : Int32) (p1 : Int32) (p2 : Int32) (p3 : Int32) : mI l yX10_value cX10_value 6 (.int) { frames := 2, cells := 0, slots := 0, locals := 43 } D G b0 f [.ref (X 0), .int p0, .int p1, .int p2, .int p3] (fun r f1 => (-1 : Int32) = r ∧ ∀ q, (∀ i, i ∈ XI → q ≠ X i) → f1 q = f q) := by
  refine met_of (own := RX10) (by decide) rfl (Nat.le_of_ble_eq_true rfl) ?_
  intro p e s m below meth c ls C hr hini hl h
  have hl : lv_has ls 6 [(0, .ref (X 0)), (1, .int p0), (2, .int p1), (3, .int p2), (4, .int p3)] := hl
  obtain ⟨hx, hb, hml, hown, hts, hE0, hlk⟩ := id C
  obtain ⟨kx0, kx1, kx2, kx3, kx4, kx5, kx6, kx7, kx8, kx9⟩ := hX
  refine lv_aload_n hx hb dX10_value_0 rfl (lv_at hl 0 rfl) ?_
  refine q_get C h kx0 fl_X10_19 (v := .ref (X 2)) rfl dX10_value_1 ?_
  refine lv_iload_n hx hb dX10_value_4 rfl (lv_at hl 1 rfl) ?_
  refine k_q (r_V C h hl (As := [.int p0]) (rest := []) (c_X0_find l D G b0 f X ⟨kx0, kx1, kx2, kx3, kx4, kx5, kx6, kx7, kx8, kx9⟩ p0) kx2 (Cn := RX0) (T := TX0) (N := 6) rfl rfl mk_X0_find w_594 w_595 w_596 w_597 ⟨Nat.le_of_ble_eq_true rfl, Nat.le_of_ble_eq_true rfl⟩ rfl (Nat.le_of_ble_eq_true rfl) ⟨Nat.le_of_ble_eq_true rfl, Nat.le_of_ble_eq_true rfl⟩ rfl dX10_value_5) h (fun r_116 f_117 H locs p_118 h => ?_)
  obtain ⟨rfl, rfl⟩ := p_118
  refine lv_astoreN (lv' := [(5, .null), (0, .ref (X 0)), (1, .int p0), (2, .int p1), (3, .int p2), (4, .int p3)]) hx hb dX10_value_8 hl (by decide) rfl (fun ls hl => ?_)
  refine lv_aloadN hx hb dX10_value_10 (lv_at hl 0 rfl) ?_
  refine lv_ifnullN (tgt := 43) hx hb dX10_value_12 (by decide) ?_
  refine lv_iconst (v := -1) hx hb dX10_value_43 (by decide) ?_
  exact q_iret C h hr (⟨rfl, fun q hq => rfl⟩) (Nat.le_of_ble_eq_true rfl) (Nat.le_of_ble_eq_true rfl) dX10_value_44
set_option maxRecDepth 100000 in
set_option maxHeartbeats 4000000 in
theorem c_X10_walk (l : Launch) (D : va_G) (G : Nat → Nat) (b0 : Nat) (f : hM) (X : Nat → Nat) (hX : xw G f X) (p0 : Int32) (p1 : Int32) (p2 : Int32) (p3 : Int32) (p4 : Int32) (p5 : Int32) : mI l yX10_walk cX10_walk 9 (.int) { frames := 2, cells := 0, slots := 0, locals := 43 } D G b0 f [.ref (X 0), .int p0, .int p1, .int p2, .int p3, .int p4, .int p5] (fun r f1 => (-1000000 : Int32) = r ∧ ∀ q, (∀ i, i ∈ XI → q ≠ X i) → f1 q = f q) := by
  refine met_of (own := RX10) (by decide) rfl (Nat.le_of_ble_eq_true rfl) ?_
  intro p e s m below meth c ls C hr hini hl h
  have hl : lv_has ls 9 [(0, .ref (X 0)), (1, .int p0), (2, .int p1), (3, .int p2), (4, .int p3), (5, .int p4), (6, .int p5)] := hl
  obtain ⟨hx, hb, hml, hown, hts, hE0, hlk⟩ := id C
  obtain ⟨kx0, kx1, kx2, kx3, kx4, kx5, kx6, kx7, kx8, kx9⟩ := hX
  refine lv_aload_n hx hb dX10_walk_0 rfl (lv_at hl 0 rfl) ?_
  refine q_get C h kx0 fl_X10_19 (v := .ref (X 2)) rfl dX10_walk_1 ?_
  refine lv_iload_n hx hb dX10_walk_4 rfl (lv_at hl 1 rfl) ?_
  refine k_q (r_V C h hl (As := [.int p0]) (rest := []) (c_X0_find l D G b0 f X ⟨kx0, kx1, kx2, kx3, kx4, kx5, kx6, kx7, kx8, kx9⟩ p0) kx2 (Cn := RX0) (T := TX0) (N := 6) rfl rfl mk_X0_find w_594 w_595 w_596 w_597 ⟨Nat.le_of_ble_eq_true rfl, Nat.le_of_ble_eq_true rfl⟩ rfl (Nat.le_of_ble_eq_true rfl) ⟨Nat.le_of_ble_eq_true rfl, Nat.le_of_ble_eq_true rfl⟩ rfl dX10_walk_5) h (fun r_119 f_120 H locs p_121 h => ?_)
  obtain ⟨rfl, rfl⟩ := p_121
  refine lv_astoreN (lv' := [(7, .null), (0, .ref (X 0)), (1, .int p0), (2, .int p1), (3, .int p2), (4, .int p3), (5, .int p4), (6, .int p5)]) hx hb dX10_walk_8 hl (by decide) rfl (fun ls hl => ?_)
  refine lv_aloadN hx hb dX10_walk_10 (lv_at hl 0 rfl) ?_
  refine lv_ifnullN (tgt := 34) hx hb dX10_walk_12 (by decide) ?_
  refine lv_ldc (v := -1000000) hx hb hown (hts _ w_772) dX10_walk_34 ?_
  exact q_iret C h hr (⟨rfl, fun q hq => rfl⟩) (Nat.le_of_ble_eq_true rfl) (Nat.le_of_ble_eq_true rfl) dX10_walk_36
set_option maxRecDepth 100000 in
set_option maxHeartbeats 4000000 in
theorem c_X10_drawn (l : Launch) (D : va_G) (G : Nat → Nat) (b0 : Nat) (f : hM) (X : Nat → Nat) (hX : xw G f X) (p0 : Int32) (p1 : Int32) (p2 : Int32) (p3 : Int32) (p4 : Int64) (p5 : Int32) : mI l yX10_drawn cX10_drawn 12 (.int) { frames := 2, cells := 0, slots := 0, locals := 43 } D G b0 f [.ref (X 0), .int p0, .int p1, .int p2, .int p3, .long p4, .int p5] (fun r f1 => (-1000000 : Int32) = r ∧ ∀ q, (∀ i, i ∈ XI → q ≠ X i) → f1 q = f q) := by
  refine met_of (own := RX10) (by decide) rfl (Nat.le_of_ble_eq_true rfl) ?_
  intro p e s m below meth c ls C hr hini hl h
  have hl : lv_has ls 12 [(0, .ref (X 0)), (1, .int p0), (2, .int p1), (3, .int p2), (4, .int p3), (5, .long p4), (7, .int p5)] := hl
  obtain ⟨hx, hb, hml, hown, hts, hE0, hlk⟩ := id C
  obtain ⟨kx0, kx1, kx2, kx3, kx4, kx5, kx6, kx7, kx8, kx9⟩ := hX
  refine lv_aload_n hx hb dX10_drawn_0 rfl (lv_at hl 0 rfl) ?_
  refine q_get C h kx0 fl_X10_19 (v := .ref (X 2)) rfl dX10_drawn_1 ?_
  refine lv_iload_n hx hb dX10_drawn_4 rfl (lv_at hl 1 rfl) ?_
  refine k_q (r_V C h hl (As := [.int p0]) (rest := []) (c_X0_find l D G b0 f X ⟨kx0, kx1, kx2, kx3, kx4, kx5, kx6, kx7, kx8, kx9⟩ p0) kx2 (Cn := RX0) (T := TX0) (N := 6) rfl rfl mk_X0_find w_594 w_595 w_596 w_597 ⟨Nat.le_of_ble_eq_true rfl, Nat.le_of_ble_eq_true rfl⟩ rfl (Nat.le_of_ble_eq_true rfl) ⟨Nat.le_of_ble_eq_true rfl, Nat.le_of_ble_eq_true rfl⟩ rfl dX10_drawn_5) h (fun r_122 f_123 H locs p_124 h => ?_)
  obtain ⟨rfl, rfl⟩ := p_124
  refine lv_astoreN (lv' := [(8, .null), (0, .ref (X 0)), (1, .int p0), (2, .int p1), (3, .int p2), (4, .int p3), (5, .long p4), (7, .int p5)]) hx hb dX10_drawn_8 hl (by decide) rfl (fun ls hl => ?_)
  refine lv_aloadN hx hb dX10_drawn_10 (lv_at hl 0 rfl) ?_
  refine lv_ifnullN (tgt := 46) hx hb dX10_drawn_12 (by decide) ?_
  refine lv_ldc (v := -1000000) hx hb hown (hts _ w_772) dX10_drawn_46 ?_
  exact q_iret C h hr (⟨rfl, fun q hq => rfl⟩) (Nat.le_of_ble_eq_true rfl) (Nat.le_of_ble_eq_true rfl) dX10_drawn_48
set_option maxRecDepth 100000 in
set_option maxHeartbeats 4000000 in
theorem c_X10_peak (l : Launch) (D : va_G) (G : Nat → Nat) (b0 : Nat) (f : hM) (X : Nat → Nat) (hX : xw G f X) (p0 : Int32) (p1 : Int32) (p2 : Int32) : mI l yX10_peak cX10_peak 5 (.int) { frames := 2, cells := 0, slots := 0, locals := 43 } D G b0 f [.ref (X 0), .int p0, .int p1, .int p2] (fun r f1 => (-1000000 : Int32) = r ∧ ∀ q, (∀ i, i ∈ XI → q ≠ X i) → f1 q = f q) := by
  refine met_of (own := RX10) (by decide) rfl (Nat.le_of_ble_eq_true rfl) ?_
  intro p e s m below meth c ls C hr hini hl h
  have hl : lv_has ls 5 [(0, .ref (X 0)), (1, .int p0), (2, .int p1), (3, .int p2)] := hl
  obtain ⟨hx, hb, hml, hown, hts, hE0, hlk⟩ := id C
  obtain ⟨kx0, kx1, kx2, kx3, kx4, kx5, kx6, kx7, kx8, kx9⟩ := hX
  refine lv_aload_n hx hb dX10_peak_0 rfl (lv_at hl 0 rfl) ?_
  refine q_get C h kx0 fl_X10_19 (v := .ref (X 2)) rfl dX10_peak_1 ?_
  refine lv_iload_n hx hb dX10_peak_4 rfl (lv_at hl 1 rfl) ?_
  refine k_q (r_V C h hl (As := [.int p0]) (rest := []) (c_X0_find l D G b0 f X ⟨kx0, kx1, kx2, kx3, kx4, kx5, kx6, kx7, kx8, kx9⟩ p0) kx2 (Cn := RX0) (T := TX0) (N := 6) rfl rfl mk_X0_find w_594 w_595 w_596 w_597 ⟨Nat.le_of_ble_eq_true rfl, Nat.le_of_ble_eq_true rfl⟩ rfl (Nat.le_of_ble_eq_true rfl) ⟨Nat.le_of_ble_eq_true rfl, Nat.le_of_ble_eq_true rfl⟩ rfl dX10_peak_5) h (fun r_125 f_126 H locs p_127 h => ?_)
  obtain ⟨rfl, rfl⟩ := p_127
  refine lv_astoreN (lv' := [(4, .null), (0, .ref (X 0)), (1, .int p0), (2, .int p1), (3, .int p2)]) hx hb dX10_peak_8 hl (by decide) rfl (fun ls hl => ?_)
  refine lv_aloadN hx hb dX10_peak_10 (lv_at hl 0 rfl) ?_
  refine lv_ifnullN (tgt := 34) hx hb dX10_peak_12 (by decide) ?_
  refine lv_ldc (v := -1000000) hx hb hown (hts _ w_772) dX10_peak_34 ?_
  exact q_iret C h hr (⟨rfl, fun q hq => rfl⟩) (Nat.le_of_ble_eq_true rfl) (Nat.le_of_ble_eq_true rfl) dX10_peak_36
set_option maxRecDepth 100000 in
set_option maxHeartbeats 4000000 in
theorem c_X10_points (l : Launch) (D : va_G) (G : Nat → Nat) (b0 : Nat) (f : hM) (X : Nat → Nat) (hX : xw G f X) (p0 : Int32) (p1 : Int32) : mI l yX10_points cX10_points 4 (.int) { frames := 2, cells := 0, slots := 0, locals := 43 } D G b0 f [.ref (X 0), .int p0, .int p1] (fun r f1 => (-1 : Int32) = r ∧ ∀ q, (∀ i, i ∈ XI → q ≠ X i) → f1 q = f q) := by
  refine met_of (own := RX10) (by decide) rfl (Nat.le_of_ble_eq_true rfl) ?_
  intro p e s m below meth c ls C hr hini hl h
  have hl : lv_has ls 4 [(0, .ref (X 0)), (1, .int p0), (2, .int p1)] := hl
  obtain ⟨hx, hb, hml, hown, hts, hE0, hlk⟩ := id C
  obtain ⟨kx0, kx1, kx2, kx3, kx4, kx5, kx6, kx7, kx8, kx9⟩ := hX
  refine lv_aload_n hx hb dX10_points_0 rfl (lv_at hl 0 rfl) ?_
  refine q_get C h kx0 fl_X10_19 (v := .ref (X 2)) rfl dX10_points_1 ?_
  refine lv_iload_n hx hb dX10_points_4 rfl (lv_at hl 1 rfl) ?_
  refine k_q (r_V C h hl (As := [.int p0]) (rest := []) (c_X0_find l D G b0 f X ⟨kx0, kx1, kx2, kx3, kx4, kx5, kx6, kx7, kx8, kx9⟩ p0) kx2 (Cn := RX0) (T := TX0) (N := 6) rfl rfl mk_X0_find w_594 w_595 w_596 w_597 ⟨Nat.le_of_ble_eq_true rfl, Nat.le_of_ble_eq_true rfl⟩ rfl (Nat.le_of_ble_eq_true rfl) ⟨Nat.le_of_ble_eq_true rfl, Nat.le_of_ble_eq_true rfl⟩ rfl dX10_points_5) h (fun r_128 f_129 H locs p_130 h => ?_)
  obtain ⟨rfl, rfl⟩ := p_130
  refine lv_astore_nN (lv' := [(3, .null), (0, .ref (X 0)), (1, .int p0), (2, .int p1)]) hx hb dX10_points_8 rfl hl (by decide) rfl (fun ls hl => ?_)
  refine lv_aload_nN hx hb dX10_points_9 rfl (lv_at hl 0 rfl) ?_
  refine lv_ifnullN (tgt := 20) hx hb dX10_points_10 (by decide) ?_
  refine lv_iconst (v := -1) hx hb dX10_points_20 (by decide) ?_
  exact q_iret C h hr (⟨rfl, fun q hq => rfl⟩) (Nat.le_of_ble_eq_true rfl) (Nat.le_of_ble_eq_true rfl) dX10_points_21
set_option maxRecDepth 100000 in
set_option maxHeartbeats 4000000 in
theorem c_X10_fewest (l : Launch) (D : va_G) (G : Nat → Nat) (b0 : Nat) (f : hM) (X : Nat → Nat) (hX : xw G f X) (p0 : Int32) (p1 : Int32) (p2 : Int32) : mI l yX10_fewest cX10_fewest 6 (.int) { frames := 2, cells := 0, slots := 0, locals := 43 } D G b0 f [.ref (X 0), .int p0, .int p1, .int p2] (fun r f1 => (-1 : Int32) = r ∧ ∀ q, (∀ i, i ∈ XI → q ≠ X i) → f1 q = f q) := by
  refine met_of (own := RX10) (by decide) rfl (Nat.le_of_ble_eq_true rfl) ?_
  intro p e s m below meth c ls C hr hini hl h
  have hl : lv_has ls 6 [(0, .ref (X 0)), (1, .int p0), (2, .int p1), (3, .int p2)] := hl
  obtain ⟨hx, hb, hml, hown, hts, hE0, hlk⟩ := id C
  obtain ⟨kx0, kx1, kx2, kx3, kx4, kx5, kx6, kx7, kx8, kx9⟩ := hX
  refine lv_aload_n hx hb dX10_fewest_0 rfl (lv_at hl 0 rfl) ?_
  refine q_get C h kx0 fl_X10_19 (v := .ref (X 2)) rfl dX10_fewest_1 ?_
  refine lv_iload_n hx hb dX10_fewest_4 rfl (lv_at hl 1 rfl) ?_
  refine k_q (r_V C h hl (As := [.int p0]) (rest := []) (c_X0_find l D G b0 f X ⟨kx0, kx1, kx2, kx3, kx4, kx5, kx6, kx7, kx8, kx9⟩ p0) kx2 (Cn := RX0) (T := TX0) (N := 6) rfl rfl mk_X0_find w_594 w_595 w_596 w_597 ⟨Nat.le_of_ble_eq_true rfl, Nat.le_of_ble_eq_true rfl⟩ rfl (Nat.le_of_ble_eq_true rfl) ⟨Nat.le_of_ble_eq_true rfl, Nat.le_of_ble_eq_true rfl⟩ rfl dX10_fewest_5) h (fun r_131 f_132 H locs p_133 h => ?_)
  obtain ⟨rfl, rfl⟩ := p_133
  refine lv_astoreN (lv' := [(4, .null), (0, .ref (X 0)), (1, .int p0), (2, .int p1), (3, .int p2)]) hx hb dX10_fewest_8 hl (by decide) rfl (fun ls hl => ?_)
  refine lv_aloadN hx hb dX10_fewest_10 (lv_at hl 0 rfl) ?_
  refine lv_ifnullN (tgt := 23) hx hb dX10_fewest_12 (by decide) ?_
  refine lv_iconst (v := -1) hx hb dX10_fewest_23 (by decide) ?_
  exact q_iret C h hr (⟨rfl, fun q hq => rfl⟩) (Nat.le_of_ble_eq_true rfl) (Nat.le_of_ble_eq_true rfl) dX10_fewest_24
set_option maxRecDepth 100000 in
set_option maxHeartbeats 4000000 in
theorem c_X10_period (l : Launch) (D : va_G) (G : Nat → Nat) (b0 : Nat) (f : hM) (X : Nat → Nat) (hX : xw G f X) (p0 : Int32) : mI l yX10_period cX10_period 5 (.int) { frames := 2, cells := 0, slots := 0, locals := 43 } D G b0 f [.ref (X 0), .int p0] (fun r f1 => (-1 : Int32) = r ∧ ∀ q, (∀ i, i ∈ XI → q ≠ X i) → f1 q = f q) := by
  refine met_of (own := RX10) (by decide) rfl (Nat.le_of_ble_eq_true rfl) ?_
  intro p e s m below meth c ls C hr hini hl h
  have hl : lv_has ls 5 [(0, .ref (X 0)), (1, .int p0)] := hl
  obtain ⟨hx, hb, hml, hown, hts, hE0, hlk⟩ := id C
  obtain ⟨kx0, kx1, kx2, kx3, kx4, kx5, kx6, kx7, kx8, kx9⟩ := hX
  refine lv_aload_n hx hb dX10_period_0 rfl (lv_at hl 0 rfl) ?_
  refine q_get C h kx0 fl_X10_19 (v := .ref (X 2)) rfl dX10_period_1 ?_
  refine lv_iload_n hx hb dX10_period_4 rfl (lv_at hl 1 rfl) ?_
  refine k_q (r_V C h hl (As := [.int p0]) (rest := []) (c_X0_find l D G b0 f X ⟨kx0, kx1, kx2, kx3, kx4, kx5, kx6, kx7, kx8, kx9⟩ p0) kx2 (Cn := RX0) (T := TX0) (N := 6) rfl rfl mk_X0_find w_594 w_595 w_596 w_597 ⟨Nat.le_of_ble_eq_true rfl, Nat.le_of_ble_eq_true rfl⟩ rfl (Nat.le_of_ble_eq_true rfl) ⟨Nat.le_of_ble_eq_true rfl, Nat.le_of_ble_eq_true rfl⟩ rfl dX10_period_5) h (fun r_134 f_135 H locs p_136 h => ?_)
  obtain ⟨rfl, rfl⟩ := p_136
  refine lv_astore_nN (lv' := [(2, .null), (0, .ref (X 0)), (1, .int p0)]) hx hb dX10_period_8 rfl hl (by decide) rfl (fun ls hl => ?_)
  refine lv_aload_nN hx hb dX10_period_9 rfl (lv_at hl 0 rfl) ?_
  refine lv_ifnonnullN hx hb dX10_period_10 ?_
  refine lv_iconst (v := -1) hx hb dX10_period_13 (by decide) ?_
  exact q_iret C h hr (⟨rfl, fun q hq => rfl⟩) (Nat.le_of_ble_eq_true rfl) (Nat.le_of_ble_eq_true rfl) dX10_period_14
set_option maxRecDepth 100000 in
set_option maxHeartbeats 4000000 in
theorem c_X10_meet (l : Launch) (D : va_G) (G : Nat → Nat) (b0 : Nat) (f : hM) (X : Nat → Nat) (hX : xw G f X) (p0 : Int32) (p1 : Int32) (p2 : Int32) : mI l yX10_meet cX10_meet 6 (.int) { frames := 2, cells := 0, slots := 0, locals := 43 } D G b0 f [.ref (X 0), .int p0, .int p1, .int p2] (fun r f1 => (-1 : Int32) = r ∧ ∀ q, (∀ i, i ∈ XI → q ≠ X i) → f1 q = f q) := by
  refine met_of (own := RX10) (by decide) rfl (Nat.le_of_ble_eq_true rfl) ?_
  intro p e s m below meth c ls C hr hini hl h
  have hl : lv_has ls 6 [(0, .ref (X 0)), (1, .int p0), (2, .int p1), (3, .int p2)] := hl
  obtain ⟨hx, hb, hml, hown, hts, hE0, hlk⟩ := id C
  obtain ⟨kx0, kx1, kx2, kx3, kx4, kx5, kx6, kx7, kx8, kx9⟩ := hX
  refine lv_aload_n hx hb dX10_meet_0 rfl (lv_at hl 0 rfl) ?_
  refine q_get C h kx0 fl_X10_19 (v := .ref (X 2)) rfl dX10_meet_1 ?_
  refine lv_iload_n hx hb dX10_meet_4 rfl (lv_at hl 1 rfl) ?_
  refine k_q (r_V C h hl (As := [.int p0]) (rest := []) (c_X0_find l D G b0 f X ⟨kx0, kx1, kx2, kx3, kx4, kx5, kx6, kx7, kx8, kx9⟩ p0) kx2 (Cn := RX0) (T := TX0) (N := 6) rfl rfl mk_X0_find w_594 w_595 w_596 w_597 ⟨Nat.le_of_ble_eq_true rfl, Nat.le_of_ble_eq_true rfl⟩ rfl (Nat.le_of_ble_eq_true rfl) ⟨Nat.le_of_ble_eq_true rfl, Nat.le_of_ble_eq_true rfl⟩ rfl dX10_meet_5) h (fun r_137 f_138 H locs p_139 h => ?_)
  obtain ⟨rfl, rfl⟩ := p_139
  refine lv_astoreN (lv' := [(4, .null), (0, .ref (X 0)), (1, .int p0), (2, .int p1), (3, .int p2)]) hx hb dX10_meet_8 hl (by decide) rfl (fun ls hl => ?_)
  refine lv_aload_n hx hb dX10_meet_10 rfl (lv_at hl 1 rfl) ?_
  refine q_get C h kx0 fl_X10_19 (v := .ref (X 2)) rfl dX10_meet_11 ?_
  refine lv_iload_n hx hb dX10_meet_14 rfl (lv_at hl 3 rfl) ?_
  refine k_q (r_V C h hl (As := [.int p1]) (rest := []) (c_X0_find l D G b0 f X ⟨kx0, kx1, kx2, kx3, kx4, kx5, kx6, kx7, kx8, kx9⟩ p1) kx2 (Cn := RX0) (T := TX0) (N := 6) rfl rfl mk_X0_find w_594 w_595 w_596 w_597 ⟨Nat.le_of_ble_eq_true rfl, Nat.le_of_ble_eq_true rfl⟩ rfl (Nat.le_of_ble_eq_true rfl) ⟨Nat.le_of_ble_eq_true rfl, Nat.le_of_ble_eq_true rfl⟩ rfl dX10_meet_15) h (fun r_140 f_141 H locs p_142 h => ?_)
  obtain ⟨rfl, rfl⟩ := p_142
  refine lv_astoreN (lv' := [(5, .null), (4, .null), (0, .ref (X 0)), (1, .int p0), (2, .int p1), (3, .int p2)]) hx hb dX10_meet_18 hl (by decide) rfl (fun ls hl => ?_)
  refine lv_aloadN hx hb dX10_meet_20 (lv_at hl 1 rfl) ?_
  refine lv_ifnullN (tgt := 37) hx hb dX10_meet_22 (by decide) ?_
  refine lv_iconst (v := -1) hx hb dX10_meet_37 (by decide) ?_
  exact q_iret C h hr (⟨rfl, fun q hq => rfl⟩) (Nat.le_of_ble_eq_true rfl) (Nat.le_of_ble_eq_true rfl) dX10_meet_38
set_option maxRecDepth 100000 in
set_option maxHeartbeats 4000000 in
theorem c_X10_kernel (l : Launch) (D : va_G) (G : Nat → Nat) (b0 : Nat) (f : hM) (X : Nat → Nat) (hX : xw G f X) (p0 : Int32) (p1 : Int32) (p2 : Int32) : mI l yX10_kernel cX10_kernel 5 (.int) { frames := 2, cells := 0, slots := 0, locals := 43 } D G b0 f [.ref (X 0), .int p0, .int p1, .int p2] (fun r f1 => (-1 : Int32) = r ∧ ∀ q, (∀ i, i ∈ XI → q ≠ X i) → f1 q = f q) := by
  refine met_of (own := RX10) (by decide) rfl (Nat.le_of_ble_eq_true rfl) ?_
  intro p e s m below meth c ls C hr hini hl h
  have hl : lv_has ls 5 [(0, .ref (X 0)), (1, .int p0), (2, .int p1), (3, .int p2)] := hl
  obtain ⟨hx, hb, hml, hown, hts, hE0, hlk⟩ := id C
  obtain ⟨kx0, kx1, kx2, kx3, kx4, kx5, kx6, kx7, kx8, kx9⟩ := hX
  refine lv_aload_n hx hb dX10_kernel_0 rfl (lv_at hl 0 rfl) ?_
  refine q_get C h kx0 fl_X10_19 (v := .ref (X 2)) rfl dX10_kernel_1 ?_
  refine lv_iload_n hx hb dX10_kernel_4 rfl (lv_at hl 1 rfl) ?_
  refine k_q (r_V C h hl (As := [.int p0]) (rest := []) (c_X0_find l D G b0 f X ⟨kx0, kx1, kx2, kx3, kx4, kx5, kx6, kx7, kx8, kx9⟩ p0) kx2 (Cn := RX0) (T := TX0) (N := 6) rfl rfl mk_X0_find w_594 w_595 w_596 w_597 ⟨Nat.le_of_ble_eq_true rfl, Nat.le_of_ble_eq_true rfl⟩ rfl (Nat.le_of_ble_eq_true rfl) ⟨Nat.le_of_ble_eq_true rfl, Nat.le_of_ble_eq_true rfl⟩ rfl dX10_kernel_5) h (fun r_143 f_144 H locs p_145 h => ?_)
  obtain ⟨rfl, rfl⟩ := p_145
  refine lv_astoreN (lv' := [(4, .null), (0, .ref (X 0)), (1, .int p0), (2, .int p1), (3, .int p2)]) hx hb dX10_kernel_8 hl (by decide) rfl (fun ls hl => ?_)
  refine lv_aloadN hx hb dX10_kernel_10 (lv_at hl 0 rfl) ?_
  refine lv_ifnullN (tgt := 29) hx hb dX10_kernel_12 (by decide) ?_
  refine lv_iconst (v := -1) hx hb dX10_kernel_29 (by decide) ?_
  exact q_iret C h hr (⟨rfl, fun q hq => rfl⟩) (Nat.le_of_ble_eq_true rfl) (Nat.le_of_ble_eq_true rfl) dX10_kernel_30
set_option maxRecDepth 100000 in
set_option maxHeartbeats 4000000 in
theorem c_X10_turned (l : Launch) (D : va_G) (G : Nat → Nat) (b0 : Nat) (f : hM) (X : Nat → Nat) (hX : xw G f X) (p0 : Int32) (p1 : Int32) (p2 : Int32) (p3 : Int32) : mI l yX10_turned cX10_turned 6 (.int) { frames := 2, cells := 0, slots := 0, locals := 43 } D G b0 f [.ref (X 0), .int p0, .int p1, .int p2, .int p3] (fun r f1 => (-1 : Int32) = r ∧ ∀ q, (∀ i, i ∈ XI → q ≠ X i) → f1 q = f q) := by
  refine met_of (own := RX10) (by decide) rfl (Nat.le_of_ble_eq_true rfl) ?_
  intro p e s m below meth c ls C hr hini hl h
  have hl : lv_has ls 6 [(0, .ref (X 0)), (1, .int p0), (2, .int p1), (3, .int p2), (4, .int p3)] := hl
  obtain ⟨hx, hb, hml, hown, hts, hE0, hlk⟩ := id C
  obtain ⟨kx0, kx1, kx2, kx3, kx4, kx5, kx6, kx7, kx8, kx9⟩ := hX
  refine lv_aload_n hx hb dX10_turned_0 rfl (lv_at hl 0 rfl) ?_
  refine q_get C h kx0 fl_X10_19 (v := .ref (X 2)) rfl dX10_turned_1 ?_
  refine lv_iload_n hx hb dX10_turned_4 rfl (lv_at hl 1 rfl) ?_
  refine k_q (r_V C h hl (As := [.int p0]) (rest := []) (c_X0_find l D G b0 f X ⟨kx0, kx1, kx2, kx3, kx4, kx5, kx6, kx7, kx8, kx9⟩ p0) kx2 (Cn := RX0) (T := TX0) (N := 6) rfl rfl mk_X0_find w_594 w_595 w_596 w_597 ⟨Nat.le_of_ble_eq_true rfl, Nat.le_of_ble_eq_true rfl⟩ rfl (Nat.le_of_ble_eq_true rfl) ⟨Nat.le_of_ble_eq_true rfl, Nat.le_of_ble_eq_true rfl⟩ rfl dX10_turned_5) h (fun r_146 f_147 H locs p_148 h => ?_)
  obtain ⟨rfl, rfl⟩ := p_148
  refine lv_astoreN (lv' := [(5, .null), (0, .ref (X 0)), (1, .int p0), (2, .int p1), (3, .int p2), (4, .int p3)]) hx hb dX10_turned_8 hl (by decide) rfl (fun ls hl => ?_)
  refine lv_aloadN hx hb dX10_turned_10 (lv_at hl 0 rfl) ?_
  refine lv_ifnullN (tgt := 39) hx hb dX10_turned_12 (by decide) ?_
  refine lv_iconst (v := -1) hx hb dX10_turned_39 (by decide) ?_
  exact q_iret C h hr (⟨rfl, fun q hq => rfl⟩) (Nat.le_of_ble_eq_true rfl) (Nat.le_of_ble_eq_true rfl) dX10_turned_40
set_option maxRecDepth 100000 in
set_option maxHeartbeats 4000000 in
theorem c_X10_orbit (l : Launch) (D : va_G) (G : Nat → Nat) (b0 : Nat) (f : hM) (X : Nat → Nat) (hX : xw G f X) (p0 : Int32) (p1 : Int32) (p2 : Int32) (p3 : Int32) (p4 : Int32) : mI l yX10_orbit cX10_orbit 9 (.int) { frames := 2, cells := 0, slots := 0, locals := 43 } D G b0 f [.ref (X 0), .int p0, .int p1, .int p2, .int p3, .int p4] (fun r f1 => (-2 : Int32) = r ∧ ∀ q, (∀ i, i ∈ XI → q ≠ X i) → f1 q = f q) := by
  refine met_of (own := RX10) (by decide) rfl (Nat.le_of_ble_eq_true rfl) ?_
  intro p e s m below meth c ls C hr hini hl h
  have hl : lv_has ls 9 [(0, .ref (X 0)), (1, .int p0), (2, .int p1), (3, .int p2), (4, .int p3), (5, .int p4)] := hl
  obtain ⟨hx, hb, hml, hown, hts, hE0, hlk⟩ := id C
  obtain ⟨kx0, kx1, kx2, kx3, kx4, kx5, kx6, kx7, kx8, kx9⟩ := hX
  refine lv_aload_n hx hb dX10_orbit_0 rfl (lv_at hl 0 rfl) ?_
  refine q_get C h kx0 fl_X10_19 (v := .ref (X 2)) rfl dX10_orbit_1 ?_
  refine lv_iload_n hx hb dX10_orbit_4 rfl (lv_at hl 1 rfl) ?_
  refine k_q (r_V C h hl (As := [.int p0]) (rest := []) (c_X0_find l D G b0 f X ⟨kx0, kx1, kx2, kx3, kx4, kx5, kx6, kx7, kx8, kx9⟩ p0) kx2 (Cn := RX0) (T := TX0) (N := 6) rfl rfl mk_X0_find w_594 w_595 w_596 w_597 ⟨Nat.le_of_ble_eq_true rfl, Nat.le_of_ble_eq_true rfl⟩ rfl (Nat.le_of_ble_eq_true rfl) ⟨Nat.le_of_ble_eq_true rfl, Nat.le_of_ble_eq_true rfl⟩ rfl dX10_orbit_5) h (fun r_149 f_150 H locs p_151 h => ?_)
  obtain ⟨rfl, rfl⟩ := p_151
  refine lv_astoreN (lv' := [(6, .null), (0, .ref (X 0)), (1, .int p0), (2, .int p1), (3, .int p2), (4, .int p3), (5, .int p4)]) hx hb dX10_orbit_8 hl (by decide) rfl (fun ls hl => ?_)
  refine lv_iload hx hb dX10_orbit_10 (lv_at hl 5 rfl) ?_
  refine lv_iconst (v := -1) hx hb dX10_orbit_12 (by decide) ?_
  refine lv_icmp_eq (tgt := 26) hx hb dX10_orbit_13 (by decide) (fun c_152 => ?_) (fun c_152 => ?_)
  · refine lv_iconst (v := 1) hx hb dX10_orbit_26 (by decide) ?_
    refine lv_goto (tgt := 31) hx hb dX10_orbit_27 (by decide) ?_
    refine lv_istore (lv' := [(7, .int 1), (6, .null), (0, .ref (X 0)), (1, .int p0), (2, .int p1), (3, .int p2), (4, .int p3), (5, .int p4)]) hx hb dX10_orbit_31 hl (by decide) rfl (fun ls hl => ?_)
    refine lv_aloadN hx hb dX10_orbit_33 (lv_at hl 1 rfl) ?_
    refine lv_ifnullN (tgt := 57) hx hb dX10_orbit_35 (by decide) ?_
    refine lv_bipush (v := -2) hx hb dX10_orbit_57 (by decide) ?_
    exact q_iret C h hr (⟨rfl, fun q hq => rfl⟩) (Nat.le_of_ble_eq_true rfl) (Nat.le_of_ble_eq_true rfl) dX10_orbit_59
  · refine lv_iload hx hb dX10_orbit_16 (lv_at hl 6 rfl) ?_
    refine lv_iconst (v := 0) hx hb dX10_orbit_18 (by decide) ?_
    refine lv_iconst (v := 1) hx hb dX10_orbit_19 (by decide) ?_
    refine k_i (r_S C h hl (As := [.int p4, .int 0, .int 1]) (rest := []) (c_X10_within l D G b0 f  p4 0 1) mk_X10_within w_425 w_426 w_427 ⟨Nat.le_of_ble_eq_true rfl, Nat.le_of_ble_eq_true rfl⟩ rfl (Nat.le_of_ble_eq_true rfl) ⟨Nat.le_of_ble_eq_true rfl, Nat.le_of_ble_eq_true rfl⟩ rfl dX10_orbit_20) h (fun r_153 f_154 H locs p_155 h => ?_)
    obtain ⟨e_, rfl⟩ := p_155
    subst e_
    refine lv_if_eq (tgt := 30) hx hb dX10_orbit_23 (by decide) (fun c_156 => ?_) (fun c_156 => ?_)
    · refine lv_iconst (v := 0) hx hb dX10_orbit_30 (by decide) ?_
      refine lv_istore (lv' := [(7, .int 0), (6, .null), (0, .ref (X 0)), (1, .int p0), (2, .int p1), (3, .int p2), (4, .int p3), (5, .int p4)]) hx hb dX10_orbit_31 hl (by decide) rfl (fun ls hl => ?_)
      refine lv_aloadN hx hb dX10_orbit_33 (lv_at hl 1 rfl) ?_
      refine lv_ifnullN (tgt := 57) hx hb dX10_orbit_35 (by decide) ?_
      refine lv_bipush (v := -2) hx hb dX10_orbit_57 (by decide) ?_
      exact q_iret C h hr (⟨rfl, fun q hq => rfl⟩) (Nat.le_of_ble_eq_true rfl) (Nat.le_of_ble_eq_true rfl) dX10_orbit_59
    · refine lv_iconst (v := 1) hx hb dX10_orbit_26 (by decide) ?_
      refine lv_goto (tgt := 31) hx hb dX10_orbit_27 (by decide) ?_
      refine lv_istore (lv' := [(7, .int 1), (6, .null), (0, .ref (X 0)), (1, .int p0), (2, .int p1), (3, .int p2), (4, .int p3), (5, .int p4)]) hx hb dX10_orbit_31 hl (by decide) rfl (fun ls hl => ?_)
      refine lv_aloadN hx hb dX10_orbit_33 (lv_at hl 1 rfl) ?_
      refine lv_ifnullN (tgt := 57) hx hb dX10_orbit_35 (by decide) ?_
      refine lv_bipush (v := -2) hx hb dX10_orbit_57 (by decide) ?_
      exact q_iret C h hr (⟨rfl, fun q hq => rfl⟩) (Nat.le_of_ble_eq_true rfl) (Nat.le_of_ble_eq_true rfl) dX10_orbit_59
set_option maxRecDepth 100000 in
set_option maxHeartbeats 4000000 in
theorem c_X10_group (l : Launch) (D : va_G) (G : Nat → Nat) (b0 : Nat) (f : hM) (X : Nat → Nat) (hX : xw G f X) (p0 : Int32) : mI l yX10_group cX10_group 3 (.int) { frames := 2, cells := 0, slots := 0, locals := 43 } D G b0 f [.ref (X 0), .int p0] (fun r f1 => (-2 : Int32) = r ∧ ∀ q, (∀ i, i ∈ XI → q ≠ X i) → f1 q = f q) := by
  refine met_of (own := RX10) (by decide) rfl (Nat.le_of_ble_eq_true rfl) ?_
  intro p e s m below meth c ls C hr hini hl h
  have hl : lv_has ls 3 [(0, .ref (X 0)), (1, .int p0)] := hl
  obtain ⟨hx, hb, hml, hown, hts, hE0, hlk⟩ := id C
  obtain ⟨kx0, kx1, kx2, kx3, kx4, kx5, kx6, kx7, kx8, kx9⟩ := hX
  refine lv_aload_n hx hb dX10_group_0 rfl (lv_at hl 0 rfl) ?_
  refine q_get C h kx0 fl_X10_19 (v := .ref (X 2)) rfl dX10_group_1 ?_
  refine lv_iload_n hx hb dX10_group_4 rfl (lv_at hl 1 rfl) ?_
  refine k_q (r_V C h hl (As := [.int p0]) (rest := []) (c_X0_find l D G b0 f X ⟨kx0, kx1, kx2, kx3, kx4, kx5, kx6, kx7, kx8, kx9⟩ p0) kx2 (Cn := RX0) (T := TX0) (N := 6) rfl rfl mk_X0_find w_594 w_595 w_596 w_597 ⟨Nat.le_of_ble_eq_true rfl, Nat.le_of_ble_eq_true rfl⟩ rfl (Nat.le_of_ble_eq_true rfl) ⟨Nat.le_of_ble_eq_true rfl, Nat.le_of_ble_eq_true rfl⟩ rfl dX10_group_5) h (fun r_157 f_158 H locs p_159 h => ?_)
  obtain ⟨rfl, rfl⟩ := p_159
  refine lv_astore_nN (lv' := [(2, .null), (0, .ref (X 0)), (1, .int p0)]) hx hb dX10_group_8 rfl hl (by decide) rfl (fun ls hl => ?_)
  refine lv_aload_nN hx hb dX10_group_9 rfl (lv_at hl 0 rfl) ?_
  refine lv_ifnonnullN hx hb dX10_group_10 ?_
  refine lv_bipush (v := -2) hx hb dX10_group_13 (by decide) ?_
  refine lv_goto (tgt := 26) hx hb dX10_group_15 (by decide) ?_
  exact q_iret C h hr (⟨rfl, fun q hq => rfl⟩) (Nat.le_of_ble_eq_true rfl) (Nat.le_of_ble_eq_true rfl) dX10_group_26
set_option maxRecDepth 100000 in
set_option maxHeartbeats 4000000 in
theorem c_X10_sum (l : Launch) (D : va_G) (G : Nat → Nat) (b0 : Nat) (f : hM) (X : Nat → Nat) (hX : xw G f X) (p0 : Int32) (p1 : Int32) (p2 : Int32) : mI l yX10_sum cX10_sum 6 (.int) { frames := 2, cells := 0, slots := 0, locals := 43 } D G b0 f [.ref (X 0), .int p0, .int p1, .int p2] (fun r f1 => (-2 : Int32) = r ∧ ∀ q, (∀ i, i ∈ XI → q ≠ X i) → f1 q = f q) := by
  refine met_of (own := RX10) (by decide) rfl (Nat.le_of_ble_eq_true rfl) ?_
  intro p e s m below meth c ls C hr hini hl h
  have hl : lv_has ls 6 [(0, .ref (X 0)), (1, .int p0), (2, .int p1), (3, .int p2)] := hl
  obtain ⟨hx, hb, hml, hown, hts, hE0, hlk⟩ := id C
  obtain ⟨kx0, kx1, kx2, kx3, kx4, kx5, kx6, kx7, kx8, kx9⟩ := hX
  refine lv_aload_n hx hb dX10_sum_0 rfl (lv_at hl 0 rfl) ?_
  refine q_get C h kx0 fl_X10_19 (v := .ref (X 2)) rfl dX10_sum_1 ?_
  refine lv_iload_n hx hb dX10_sum_4 rfl (lv_at hl 1 rfl) ?_
  refine k_q (r_V C h hl (As := [.int p0]) (rest := []) (c_X0_find l D G b0 f X ⟨kx0, kx1, kx2, kx3, kx4, kx5, kx6, kx7, kx8, kx9⟩ p0) kx2 (Cn := RX0) (T := TX0) (N := 6) rfl rfl mk_X0_find w_594 w_595 w_596 w_597 ⟨Nat.le_of_ble_eq_true rfl, Nat.le_of_ble_eq_true rfl⟩ rfl (Nat.le_of_ble_eq_true rfl) ⟨Nat.le_of_ble_eq_true rfl, Nat.le_of_ble_eq_true rfl⟩ rfl dX10_sum_5) h (fun r_160 f_161 H locs p_162 h => ?_)
  obtain ⟨rfl, rfl⟩ := p_162
  refine lv_astoreN (lv' := [(4, .null), (0, .ref (X 0)), (1, .int p0), (2, .int p1), (3, .int p2)]) hx hb dX10_sum_8 hl (by decide) rfl (fun ls hl => ?_)
  refine lv_aloadN hx hb dX10_sum_10 (lv_at hl 0 rfl) ?_
  refine lv_ifnullN (tgt := 29) hx hb dX10_sum_12 (by decide) ?_
  refine lv_bipush (v := -2) hx hb dX10_sum_29 (by decide) ?_
  exact q_iret C h hr (⟨rfl, fun q hq => rfl⟩) (Nat.le_of_ble_eq_true rfl) (Nat.le_of_ble_eq_true rfl) dX10_sum_31
set_option maxRecDepth 100000 in
set_option maxHeartbeats 4000000 in
theorem c_X10_noUse (l : Launch) (D : va_G) (G : Nat → Nat) (b0 : Nat) (f : hM) (X : Nat → Nat) (hX : xw G f X) (p0 : Int32) : mI l yX10_noUse cX10_noUse 5 (.int) { frames := 2, cells := 0, slots := 0, locals := 43 } D G b0 f [.ref (X 0), .int p0] (fun r f1 => (-1 : Int32) = r ∧ ∀ q, (∀ i, i ∈ XI → q ≠ X i) → f1 q = f q) := by
  refine met_of (own := RX10) (by decide) rfl (Nat.le_of_ble_eq_true rfl) ?_
  intro p e s m below meth c ls C hr hini hl h
  have hl : lv_has ls 5 [(0, .ref (X 0)), (1, .int p0)] := hl
  obtain ⟨hx, hb, hml, hown, hts, hE0, hlk⟩ := id C
  obtain ⟨kx0, kx1, kx2, kx3, kx4, kx5, kx6, kx7, kx8, kx9⟩ := hX
  refine lv_aload_n hx hb dX10_noUse_0 rfl (lv_at hl 0 rfl) ?_
  refine q_get C h kx0 fl_X10_19 (v := .ref (X 2)) rfl dX10_noUse_1 ?_
  refine lv_iload_n hx hb dX10_noUse_4 rfl (lv_at hl 1 rfl) ?_
  refine k_q (r_V C h hl (As := [.int p0]) (rest := []) (c_X0_find l D G b0 f X ⟨kx0, kx1, kx2, kx3, kx4, kx5, kx6, kx7, kx8, kx9⟩ p0) kx2 (Cn := RX0) (T := TX0) (N := 6) rfl rfl mk_X0_find w_594 w_595 w_596 w_597 ⟨Nat.le_of_ble_eq_true rfl, Nat.le_of_ble_eq_true rfl⟩ rfl (Nat.le_of_ble_eq_true rfl) ⟨Nat.le_of_ble_eq_true rfl, Nat.le_of_ble_eq_true rfl⟩ rfl dX10_noUse_5) h (fun r_163 f_164 H locs p_165 h => ?_)
  obtain ⟨rfl, rfl⟩ := p_165
  refine lv_astore_nN (lv' := [(2, .null), (0, .ref (X 0)), (1, .int p0)]) hx hb dX10_noUse_8 rfl hl (by decide) rfl (fun ls hl => ?_)
  refine lv_aload_nN hx hb dX10_noUse_9 rfl (lv_at hl 0 rfl) ?_
  refine lv_ifnonnullN hx hb dX10_noUse_10 ?_
  refine lv_iconst (v := -1) hx hb dX10_noUse_13 (by decide) ?_
  exact q_iret C h hr (⟨rfl, fun q hq => rfl⟩) (Nat.le_of_ble_eq_true rfl) (Nat.le_of_ble_eq_true rfl) dX10_noUse_14
set_option maxRecDepth 100000 in
set_option maxHeartbeats 4000000 in
theorem c_X10_enough (l : Launch) (D : va_G) (G : Nat → Nat) (b0 : Nat) (f : hM) (X : Nat → Nat) (hX : xw G f X) (p0 : Int32) : mI l yX10_enough cX10_enough 3 (.int) { frames := 2, cells := 0, slots := 0, locals := 43 } D G b0 f [.ref (X 0), .int p0] (fun r f1 => (-1 : Int32) = r ∧ ∀ q, (∀ i, i ∈ XI → q ≠ X i) → f1 q = f q) := by
  refine met_of (own := RX10) (by decide) rfl (Nat.le_of_ble_eq_true rfl) ?_
  intro p e s m below meth c ls C hr hini hl h
  have hl : lv_has ls 3 [(0, .ref (X 0)), (1, .int p0)] := hl
  obtain ⟨hx, hb, hml, hown, hts, hE0, hlk⟩ := id C
  obtain ⟨kx0, kx1, kx2, kx3, kx4, kx5, kx6, kx7, kx8, kx9⟩ := hX
  refine lv_aload_n hx hb dX10_enough_0 rfl (lv_at hl 0 rfl) ?_
  refine q_get C h kx0 fl_X10_19 (v := .ref (X 2)) rfl dX10_enough_1 ?_
  refine lv_iload_n hx hb dX10_enough_4 rfl (lv_at hl 1 rfl) ?_
  refine k_q (r_V C h hl (As := [.int p0]) (rest := []) (c_X0_find l D G b0 f X ⟨kx0, kx1, kx2, kx3, kx4, kx5, kx6, kx7, kx8, kx9⟩ p0) kx2 (Cn := RX0) (T := TX0) (N := 6) rfl rfl mk_X0_find w_594 w_595 w_596 w_597 ⟨Nat.le_of_ble_eq_true rfl, Nat.le_of_ble_eq_true rfl⟩ rfl (Nat.le_of_ble_eq_true rfl) ⟨Nat.le_of_ble_eq_true rfl, Nat.le_of_ble_eq_true rfl⟩ rfl dX10_enough_5) h (fun r_166 f_167 H locs p_168 h => ?_)
  obtain ⟨rfl, rfl⟩ := p_168
  refine lv_astore_nN (lv' := [(2, .null), (0, .ref (X 0)), (1, .int p0)]) hx hb dX10_enough_8 rfl hl (by decide) rfl (fun ls hl => ?_)
  refine lv_aload_nN hx hb dX10_enough_9 rfl (lv_at hl 0 rfl) ?_
  refine lv_ifnonnullN hx hb dX10_enough_10 ?_
  refine lv_iconst (v := -1) hx hb dX10_enough_13 (by decide) ?_
  exact q_iret C h hr (⟨rfl, fun q hq => rfl⟩) (Nat.le_of_ble_eq_true rfl) (Nat.le_of_ble_eq_true rfl) dX10_enough_14
set_option maxRecDepth 100000 in
set_option maxHeartbeats 4000000 in
theorem c_X10_alike (l : Launch) (D : va_G) (G : Nat → Nat) (b0 : Nat) (f : hM) (X : Nat → Nat) (hX : xw G f X) (p0 : Int32) : mI l yX10_alike cX10_alike 5 (.int) { frames := 2, cells := 0, slots := 0, locals := 43 } D G b0 f [.ref (X 0), .int p0] (fun r f1 => (-1 : Int32) = r ∧ ∀ q, (∀ i, i ∈ XI → q ≠ X i) → f1 q = f q) := by
  refine met_of (own := RX10) (by decide) rfl (Nat.le_of_ble_eq_true rfl) ?_
  intro p e s m below meth c ls C hr hini hl h
  have hl : lv_has ls 5 [(0, .ref (X 0)), (1, .int p0)] := hl
  obtain ⟨hx, hb, hml, hown, hts, hE0, hlk⟩ := id C
  obtain ⟨kx0, kx1, kx2, kx3, kx4, kx5, kx6, kx7, kx8, kx9⟩ := hX
  refine lv_aload_n hx hb dX10_alike_0 rfl (lv_at hl 0 rfl) ?_
  refine q_get C h kx0 fl_X10_19 (v := .ref (X 2)) rfl dX10_alike_1 ?_
  refine lv_iload_n hx hb dX10_alike_4 rfl (lv_at hl 1 rfl) ?_
  refine k_q (r_V C h hl (As := [.int p0]) (rest := []) (c_X0_find l D G b0 f X ⟨kx0, kx1, kx2, kx3, kx4, kx5, kx6, kx7, kx8, kx9⟩ p0) kx2 (Cn := RX0) (T := TX0) (N := 6) rfl rfl mk_X0_find w_594 w_595 w_596 w_597 ⟨Nat.le_of_ble_eq_true rfl, Nat.le_of_ble_eq_true rfl⟩ rfl (Nat.le_of_ble_eq_true rfl) ⟨Nat.le_of_ble_eq_true rfl, Nat.le_of_ble_eq_true rfl⟩ rfl dX10_alike_5) h (fun r_169 f_170 H locs p_171 h => ?_)
  obtain ⟨rfl, rfl⟩ := p_171
  refine lv_astore_nN (lv' := [(2, .null), (0, .ref (X 0)), (1, .int p0)]) hx hb dX10_alike_8 rfl hl (by decide) rfl (fun ls hl => ?_)
  refine lv_aload_nN hx hb dX10_alike_9 rfl (lv_at hl 0 rfl) ?_
  refine lv_ifnonnullN hx hb dX10_alike_10 ?_
  refine lv_iconst (v := -1) hx hb dX10_alike_13 (by decide) ?_
  exact q_iret C h hr (⟨rfl, fun q hq => rfl⟩) (Nat.le_of_ble_eq_true rfl) (Nat.le_of_ble_eq_true rfl) dX10_alike_14
set_option maxRecDepth 100000 in
set_option maxHeartbeats 4000000 in
theorem c_X10_recurrence (l : Launch) (D : va_G) (G : Nat → Nat) (b0 : Nat) (f : hM) (X : Nat → Nat) (hX : xw G f X) (p0 : Int32) (p1 : Int32) (p2 : Int32) (p3 : Int32) (p4 : Int32) (p5 : Int32) : mI l yX10_recurrence cX10_recurrence 8 (.int) { frames := 3, cells := 0, slots := 0, locals := 69 } D G b0 f [.ref (X 0), .int p0, .int p1, .int p2, .int p3, .int p4, .int p5] (fun r f1 => (-1000000 : Int32) = r ∧ ∀ q, (∀ i, i ∈ XI → q ≠ X i) → f1 q = f q) := by
  refine met_of (own := RX10) (by decide) rfl (Nat.le_of_ble_eq_true rfl) ?_
  intro p e s m below meth c ls C hr hini hl h
  have hl : lv_has ls 8 [(0, .ref (X 0)), (1, .int p0), (2, .int p1), (3, .int p2), (4, .int p3), (5, .int p4), (6, .int p5)] := hl
  obtain ⟨hx, hb, hml, hown, hts, hE0, hlk⟩ := id C
  obtain ⟨kx0, kx1, kx2, kx3, kx4, kx5, kx6, kx7, kx8, kx9⟩ := hX
  refine lv_aload_n hx hb dX10_recurrence_0 rfl (lv_at hl 0 rfl) ?_
  refine lv_iload_n hx hb dX10_recurrence_1 rfl (lv_at hl 1 rfl) ?_
  refine lv_iload_n hx hb dX10_recurrence_2 rfl (lv_at hl 2 rfl) ?_
  refine lv_iconst (v := 0) hx hb dX10_recurrence_3 (by decide) ?_
  refine lv_iload_n hx hb dX10_recurrence_4 rfl (lv_at hl 3 rfl) ?_
  refine lv_iload hx hb dX10_recurrence_5 (lv_at hl 4 rfl) ?_
  refine k_i (r_V C h hl (As := [.int p0, .int p1, .int 0, .int p2, .int p3]) (rest := []) (c_X10_readies l D G b0 f X ⟨kx0, kx1, kx2, kx3, kx4, kx5, kx6, kx7, kx8, kx9⟩ p0 p1 0 p2 p3) kx0 (Cn := RX10) (T := TX10) (N := 10) rfl rfl mk_X10_readies w_1026 w_1028 w_27 w_1029 ⟨Nat.le_of_ble_eq_true rfl, Nat.le_of_ble_eq_true rfl⟩ rfl (Nat.le_of_ble_eq_true rfl) ⟨Nat.le_of_ble_eq_true rfl, Nat.le_of_ble_eq_true rfl⟩ rfl dX10_recurrence_7) h (fun r_172 f_173 H locs p_174 h => ?_)
  obtain ⟨rfl, p_174⟩ := p_174
  refine lv_istore (lv' := [(7, .int 0), (0, .ref (X 0)), (1, .int p0), (2, .int p1), (3, .int p2), (4, .int p3), (5, .int p4), (6, .int p5)]) hx hb dX10_recurrence_10 hl (by decide) rfl (fun ls hl => ?_)
  refine lv_iload hx hb dX10_recurrence_12 (lv_at hl 0 rfl) ?_
  refine lv_if_eq (tgt := 55) hx hb dX10_recurrence_14 (by decide) (fun c_175 => ?_) (fun c_175 => ?_)
  · refine lv_ldc (v := -1000000) hx hb hown (hts _ w_772) dX10_recurrence_55 ?_
    exact q_iret C h hr (⟨rfl, fun q hq => (p_174 q hq)⟩) (Nat.le_of_ble_eq_true rfl) (Nat.le_of_ble_eq_true rfl) dX10_recurrence_57
  · exact absurd c_175 (by decide)
set_option maxRecDepth 100000 in
set_option maxHeartbeats 4000000 in
theorem c_X10_fails (l : Launch) (D : va_G) (G : Nat → Nat) (b0 : Nat) (f : hM) (X : Nat → Nat) (hX : xw G f X) (p0 : Int32) (p1 : Int32) (p2 : Int32) (p3 : Int32) : mI l yX10_fails cX10_fails 5 (.int) { frames := 3, cells := 0, slots := 0, locals := 69 } D G b0 f [.ref (X 0), .int p0, .int p1, .int p2, .int p3] (fun r f1 => (-1000000 : Int32) = r ∧ ∀ q, (∀ i, i ∈ XI → q ≠ X i) → f1 q = f q) := by
  refine met_of (own := RX10) (by decide) rfl (Nat.le_of_ble_eq_true rfl) ?_
  intro p e s m below meth c ls C hr hini hl h
  have hl : lv_has ls 5 [(0, .ref (X 0)), (1, .int p0), (2, .int p1), (3, .int p2), (4, .int p3)] := hl
  obtain ⟨hx, hb, hml, hown, hts, hE0, hlk⟩ := id C
  obtain ⟨kx0, kx1, kx2, kx3, kx4, kx5, kx6, kx7, kx8, kx9⟩ := hX
  refine lv_aload_n hx hb dX10_fails_0 rfl (lv_at hl 0 rfl) ?_
  refine lv_iload_n hx hb dX10_fails_1 rfl (lv_at hl 1 rfl) ?_
  refine lv_iload_n hx hb dX10_fails_2 rfl (lv_at hl 2 rfl) ?_
  refine lv_iconst (v := 0) hx hb dX10_fails_3 (by decide) ?_
  refine lv_iload_n hx hb dX10_fails_4 rfl (lv_at hl 3 rfl) ?_
  refine lv_iload hx hb dX10_fails_5 (lv_at hl 4 rfl) ?_
  refine k_i (r_V C h hl (As := [.int p0, .int p1, .int 0, .int p2, .int p3]) (rest := []) (c_X10_readies l D G b0 f X ⟨kx0, kx1, kx2, kx3, kx4, kx5, kx6, kx7, kx8, kx9⟩ p0 p1 0 p2 p3) kx0 (Cn := RX10) (T := TX10) (N := 10) rfl rfl mk_X10_readies w_1026 w_1028 w_27 w_1029 ⟨Nat.le_of_ble_eq_true rfl, Nat.le_of_ble_eq_true rfl⟩ rfl (Nat.le_of_ble_eq_true rfl) ⟨Nat.le_of_ble_eq_true rfl, Nat.le_of_ble_eq_true rfl⟩ rfl dX10_fails_7) h (fun r_176 f_177 H locs p_178 h => ?_)
  obtain ⟨rfl, p_178⟩ := p_178
  refine lv_if_eq (tgt := 26) hx hb dX10_fails_10 (by decide) (fun c_179 => ?_) (fun c_179 => ?_)
  · refine lv_ldc (v := -1000000) hx hb hown (hts _ w_772) dX10_fails_26 ?_
    exact q_iret C h hr (⟨rfl, fun q hq => (p_178 q hq)⟩) (Nat.le_of_ble_eq_true rfl) (Nat.le_of_ble_eq_true rfl) dX10_fails_28
  · exact absurd c_179 (by decide)
set_option maxRecDepth 100000 in
set_option maxHeartbeats 4000000 in
theorem c_X10_equation (l : Launch) (D : va_G) (G : Nat → Nat) (b0 : Nat) (f : hM) (X : Nat → Nat) (hX : xw G f X) (p0 : Int32) (p1 : Int32) (p2 : Int32) (p3 : Int32) (p4 : Int32) (p5 : Int32) : mI l yX10_equation cX10_equation 8 (.int) { frames := 3, cells := 0, slots := 0, locals := 69 } D G b0 f [.ref (X 0), .int p0, .int p1, .int p2, .int p3, .int p4, .int p5] (fun r f1 => (-1000000 : Int32) = r ∧ ∀ q, (∀ i, i ∈ XI → q ≠ X i) → f1 q = f q) := by
  refine met_of (own := RX10) (by decide) rfl (Nat.le_of_ble_eq_true rfl) ?_
  intro p e s m below meth c ls C hr hini hl h
  have hl : lv_has ls 8 [(0, .ref (X 0)), (1, .int p0), (2, .int p1), (3, .int p2), (4, .int p3), (5, .int p4), (6, .int p5)] := hl
  obtain ⟨hx, hb, hml, hown, hts, hE0, hlk⟩ := id C
  obtain ⟨kx0, kx1, kx2, kx3, kx4, kx5, kx6, kx7, kx8, kx9⟩ := hX
  refine lv_aload_n hx hb dX10_equation_0 rfl (lv_at hl 0 rfl) ?_
  refine lv_iload_n hx hb dX10_equation_1 rfl (lv_at hl 1 rfl) ?_
  refine lv_iload_n hx hb dX10_equation_2 rfl (lv_at hl 2 rfl) ?_
  refine lv_iconst (v := 1) hx hb dX10_equation_3 (by decide) ?_
  refine lv_iload_n hx hb dX10_equation_4 rfl (lv_at hl 3 rfl) ?_
  refine lv_iload hx hb dX10_equation_5 (lv_at hl 4 rfl) ?_
  refine k_i (r_V C h hl (As := [.int p0, .int p1, .int 1, .int p2, .int p3]) (rest := []) (c_X10_readies l D G b0 f X ⟨kx0, kx1, kx2, kx3, kx4, kx5, kx6, kx7, kx8, kx9⟩ p0 p1 1 p2 p3) kx0 (Cn := RX10) (T := TX10) (N := 10) rfl rfl mk_X10_readies w_1026 w_1028 w_27 w_1029 ⟨Nat.le_of_ble_eq_true rfl, Nat.le_of_ble_eq_true rfl⟩ rfl (Nat.le_of_ble_eq_true rfl) ⟨Nat.le_of_ble_eq_true rfl, Nat.le_of_ble_eq_true rfl⟩ rfl dX10_equation_7) h (fun r_180 f_181 H locs p_182 h => ?_)
  obtain ⟨rfl, p_182⟩ := p_182
  refine lv_istore (lv' := [(7, .int 0), (0, .ref (X 0)), (1, .int p0), (2, .int p1), (3, .int p2), (4, .int p3), (5, .int p4), (6, .int p5)]) hx hb dX10_equation_10 hl (by decide) rfl (fun ls hl => ?_)
  refine lv_iload hx hb dX10_equation_12 (lv_at hl 0 rfl) ?_
  refine lv_if_eq (tgt := 55) hx hb dX10_equation_14 (by decide) (fun c_183 => ?_) (fun c_183 => ?_)
  · refine lv_ldc (v := -1000000) hx hb hown (hts _ w_772) dX10_equation_55 ?_
    exact q_iret C h hr (⟨rfl, fun q hq => (p_182 q hq)⟩) (Nat.le_of_ble_eq_true rfl) (Nat.le_of_ble_eq_true rfl) dX10_equation_57
  · exact absurd c_183 (by decide)
set_option maxRecDepth 100000 in
set_option maxHeartbeats 4000000 in
theorem c_X10_breaks (l : Launch) (D : va_G) (G : Nat → Nat) (b0 : Nat) (f : hM) (X : Nat → Nat) (hX : xw G f X) (p0 : Int32) (p1 : Int32) (p2 : Int32) (p3 : Int32) : mI l yX10_breaks cX10_breaks 5 (.int) { frames := 3, cells := 0, slots := 0, locals := 69 } D G b0 f [.ref (X 0), .int p0, .int p1, .int p2, .int p3] (fun r f1 => (-1000000 : Int32) = r ∧ ∀ q, (∀ i, i ∈ XI → q ≠ X i) → f1 q = f q) := by
  refine met_of (own := RX10) (by decide) rfl (Nat.le_of_ble_eq_true rfl) ?_
  intro p e s m below meth c ls C hr hini hl h
  have hl : lv_has ls 5 [(0, .ref (X 0)), (1, .int p0), (2, .int p1), (3, .int p2), (4, .int p3)] := hl
  obtain ⟨hx, hb, hml, hown, hts, hE0, hlk⟩ := id C
  obtain ⟨kx0, kx1, kx2, kx3, kx4, kx5, kx6, kx7, kx8, kx9⟩ := hX
  refine lv_aload_n hx hb dX10_breaks_0 rfl (lv_at hl 0 rfl) ?_
  refine lv_iload_n hx hb dX10_breaks_1 rfl (lv_at hl 1 rfl) ?_
  refine lv_iload_n hx hb dX10_breaks_2 rfl (lv_at hl 2 rfl) ?_
  refine lv_iconst (v := 1) hx hb dX10_breaks_3 (by decide) ?_
  refine lv_iload_n hx hb dX10_breaks_4 rfl (lv_at hl 3 rfl) ?_
  refine lv_iload hx hb dX10_breaks_5 (lv_at hl 4 rfl) ?_
  refine k_i (r_V C h hl (As := [.int p0, .int p1, .int 1, .int p2, .int p3]) (rest := []) (c_X10_readies l D G b0 f X ⟨kx0, kx1, kx2, kx3, kx4, kx5, kx6, kx7, kx8, kx9⟩ p0 p1 1 p2 p3) kx0 (Cn := RX10) (T := TX10) (N := 10) rfl rfl mk_X10_readies w_1026 w_1028 w_27 w_1029 ⟨Nat.le_of_ble_eq_true rfl, Nat.le_of_ble_eq_true rfl⟩ rfl (Nat.le_of_ble_eq_true rfl) ⟨Nat.le_of_ble_eq_true rfl, Nat.le_of_ble_eq_true rfl⟩ rfl dX10_breaks_7) h (fun r_184 f_185 H locs p_186 h => ?_)
  obtain ⟨rfl, p_186⟩ := p_186
  refine lv_if_eq (tgt := 26) hx hb dX10_breaks_10 (by decide) (fun c_187 => ?_) (fun c_187 => ?_)
  · refine lv_ldc (v := -1000000) hx hb hown (hts _ w_772) dX10_breaks_26 ?_
    exact q_iret C h hr (⟨rfl, fun q hq => (p_186 q hq)⟩) (Nat.le_of_ble_eq_true rfl) (Nat.le_of_ble_eq_true rfl) dX10_breaks_28
  · exact absurd c_187 (by decide)
set_option maxRecDepth 100000 in
set_option maxHeartbeats 4000000 in
theorem c_X10_least (l : Launch) (D : va_G) (G : Nat → Nat) (b0 : Nat) (f : hM) (X : Nat → Nat) (hX : xw G f X) (p0 : Int32) (p1 : Int32) (p2 : Int32) : mI l yX10_least cX10_least 5 (.int) { frames := 2, cells := 0, slots := 0, locals := 43 } D G b0 f [.ref (X 0), .int p0, .int p1, .int p2] (fun r f1 => (-1000000 : Int32) = r ∧ ∀ q, (∀ i, i ∈ XI → q ≠ X i) → f1 q = f q) := by
  refine met_of (own := RX10) (by decide) rfl (Nat.le_of_ble_eq_true rfl) ?_
  intro p e s m below meth c ls C hr hini hl h
  have hl : lv_has ls 5 [(0, .ref (X 0)), (1, .int p0), (2, .int p1), (3, .int p2)] := hl
  obtain ⟨hx, hb, hml, hown, hts, hE0, hlk⟩ := id C
  obtain ⟨kx0, kx1, kx2, kx3, kx4, kx5, kx6, kx7, kx8, kx9⟩ := hX
  refine lv_aload_n hx hb dX10_least_0 rfl (lv_at hl 0 rfl) ?_
  refine q_get C h kx0 fl_X10_19 (v := .ref (X 2)) rfl dX10_least_1 ?_
  refine lv_iload_n hx hb dX10_least_4 rfl (lv_at hl 1 rfl) ?_
  refine k_q (r_V C h hl (As := [.int p0]) (rest := []) (c_X0_find l D G b0 f X ⟨kx0, kx1, kx2, kx3, kx4, kx5, kx6, kx7, kx8, kx9⟩ p0) kx2 (Cn := RX0) (T := TX0) (N := 6) rfl rfl mk_X0_find w_594 w_595 w_596 w_597 ⟨Nat.le_of_ble_eq_true rfl, Nat.le_of_ble_eq_true rfl⟩ rfl (Nat.le_of_ble_eq_true rfl) ⟨Nat.le_of_ble_eq_true rfl, Nat.le_of_ble_eq_true rfl⟩ rfl dX10_least_5) h (fun r_188 f_189 H locs p_190 h => ?_)
  obtain ⟨rfl, rfl⟩ := p_190
  refine lv_astoreN (lv' := [(4, .null), (0, .ref (X 0)), (1, .int p0), (2, .int p1), (3, .int p2)]) hx hb dX10_least_8 hl (by decide) rfl (fun ls hl => ?_)
  refine lv_aloadN hx hb dX10_least_10 (lv_at hl 0 rfl) ?_
  refine lv_ifnullN (tgt := 31) hx hb dX10_least_12 (by decide) ?_
  refine lv_ldc (v := -1000000) hx hb hown (hts _ w_772) dX10_least_31 ?_
  exact q_iret C h hr (⟨rfl, fun q hq => rfl⟩) (Nat.le_of_ble_eq_true rfl) (Nat.le_of_ble_eq_true rfl) dX10_least_33
set_option maxRecDepth 100000 in
set_option maxHeartbeats 4000000 in
theorem c_X10_written (l : Launch) (D : va_G) (G : Nat → Nat) (b0 : Nat) (f : hM) (X : Nat → Nat) (hX : xw G f X) (p0 : Int32) (p1 : Int32) : mI l yX10_written cX10_written 4 (.int) { frames := 2, cells := 0, slots := 0, locals := 43 } D G b0 f [.ref (X 0), .int p0, .int p1] (fun r f1 => (-1 : Int32) = r ∧ ∀ q, (∀ i, i ∈ XI → q ≠ X i) → f1 q = f q) := by
  refine met_of (own := RX10) (by decide) rfl (Nat.le_of_ble_eq_true rfl) ?_
  intro p e s m below meth c ls C hr hini hl h
  have hl : lv_has ls 4 [(0, .ref (X 0)), (1, .int p0), (2, .int p1)] := hl
  obtain ⟨hx, hb, hml, hown, hts, hE0, hlk⟩ := id C
  obtain ⟨kx0, kx1, kx2, kx3, kx4, kx5, kx6, kx7, kx8, kx9⟩ := hX
  refine lv_aload_n hx hb dX10_written_0 rfl (lv_at hl 0 rfl) ?_
  refine q_get C h kx0 fl_X10_19 (v := .ref (X 2)) rfl dX10_written_1 ?_
  refine lv_iload_n hx hb dX10_written_4 rfl (lv_at hl 1 rfl) ?_
  refine k_q (r_V C h hl (As := [.int p0]) (rest := []) (c_X0_find l D G b0 f X ⟨kx0, kx1, kx2, kx3, kx4, kx5, kx6, kx7, kx8, kx9⟩ p0) kx2 (Cn := RX0) (T := TX0) (N := 6) rfl rfl mk_X0_find w_594 w_595 w_596 w_597 ⟨Nat.le_of_ble_eq_true rfl, Nat.le_of_ble_eq_true rfl⟩ rfl (Nat.le_of_ble_eq_true rfl) ⟨Nat.le_of_ble_eq_true rfl, Nat.le_of_ble_eq_true rfl⟩ rfl dX10_written_5) h (fun r_191 f_192 H locs p_193 h => ?_)
  obtain ⟨rfl, rfl⟩ := p_193
  refine lv_astore_nN (lv' := [(3, .null), (0, .ref (X 0)), (1, .int p0), (2, .int p1)]) hx hb dX10_written_8 rfl hl (by decide) rfl (fun ls hl => ?_)
  refine lv_aload_nN hx hb dX10_written_9 rfl (lv_at hl 0 rfl) ?_
  refine lv_ifnonnullN hx hb dX10_written_10 ?_
  refine lv_iconst (v := -1) hx hb dX10_written_13 (by decide) ?_
  exact q_iret C h hr (⟨rfl, fun q hq => rfl⟩) (Nat.le_of_ble_eq_true rfl) (Nat.le_of_ble_eq_true rfl) dX10_written_14
