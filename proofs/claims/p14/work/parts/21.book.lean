theorem dX0_remember_0 : decode cX0_remember 0 = .ok (.aload_n 0, 1) := by decide +kernel
theorem dX0_remember_1 : decode cX0_remember 1 = .ok (.getfield 21, 3) := by decide +kernel
theorem w_190 : Cond.fieldLink "QuarterWalks$Book" 21 "QuarterWalks$Book" "before" "[LQuarterWalks$Shelf;" ∈ wAll := wI1 95 (by decide +kernel) (by decide +kernel)
theorem fl_X0_21 : fl RX0 21 1 3 := ⟨RX0, TX0, 6, rfl, inA_X0, by decide, w_190⟩
theorem dX0_remember_4 : decode cX0_remember 4 = .ok (.aload_n 0, 1) := by decide +kernel
theorem dX0_remember_5 : decode cX0_remember 5 = .ok (.getfield 44, 3) := by decide +kernel
theorem w_192 : Cond.fieldLink "QuarterWalks$Book" 44 "QuarterWalks$Book" "next" "I" ∈ wAll := wI1 97 (by decide +kernel) (by decide +kernel)
theorem fl_X0_44 : fl RX0 44 1 5 := ⟨RX0, TX0, 6, rfl, inA_X0, by decide, w_192⟩
theorem dX0_remember_8 : decode cX0_remember 8 = .ok (.aaload, 1) := by decide +kernel
theorem dX0_remember_9 : decode cX0_remember 9 = .ok (.aload_n 0, 1) := by decide +kernel
theorem dX0_remember_10 : decode cX0_remember 10 = .ok (.getfield 12, 3) := by decide +kernel
theorem dX0_remember_13 : decode cX0_remember 13 = .ok (.invokevirtual 47, 3) := by decide +kernel
theorem w_585 : Cond.methodLink "QuarterWalks$Book" 47 yX5_copy ∈ wAll := wI3 10 (by decide +kernel) (by decide +kernel)
theorem w_587 : Cond.selects yX5_copy.cls yX5_copy yX5_copy ∈ wAll := wI3 12 (by decide +kernel) (by decide +kernel)
theorem w_99 : Cond.initialized "QuarterWalks$Shelf" ∈ wAll := wI1 4 (by decide +kernel) (by decide +kernel)
theorem mk_X5_copy : mk yX5_copy 1 := ⟨by decide +kernel, w_99⟩
theorem w_586 : Cond.instanceMethod yX5_copy ∈ wAll := wI3 11 (by decide +kernel) (by decide +kernel)
theorem w_588 : Cond.code yX5_copy cX5_copy 3 none ∈ wAll := wI3 13 (by decide +kernel) (by decide +kernel)
theorem dX0_remember_16 : decode cX0_remember 16 = .ok (.aload_n 0, 1) := by decide +kernel
theorem dX0_remember_17 : decode cX0_remember 17 = .ok (.aload_n 0, 1) := by decide +kernel
theorem dX0_remember_18 : decode cX0_remember 18 = .ok (.getfield 44, 3) := by decide +kernel
theorem dX0_remember_21 : decode cX0_remember 21 = .ok (.iconst 1, 1) := by decide +kernel
theorem dX0_remember_22 : decode cX0_remember 22 = .ok (.iadd, 1) := by decide +kernel
theorem dX0_remember_23 : decode cX0_remember 23 = .ok (.bipush 12, 2) := by decide +kernel
theorem dX0_remember_25 : decode cX0_remember 25 = .ok (.irem, 1) := by decide +kernel
theorem dX0_remember_26 : decode cX0_remember 26 = .ok (.putfield 44, 3) := by decide +kernel
theorem flw_X0_44 : flw RX0 44 1 5 (.int) := ⟨RX0, TX0, 6, tyX0, rfl, inA_X0, by decide, w_192, tyX0_ok, nmX0, by decide +kernel, Or.inl rfl⟩
theorem dX0_remember_29 : decode cX0_remember 29 = .ok (.aload_n 0, 1) := by decide +kernel
theorem dX0_remember_30 : decode cX0_remember 30 = .ok (.aload_n 0, 1) := by decide +kernel
theorem dX0_remember_31 : decode cX0_remember 31 = .ok (.getfield 51, 3) := by decide +kernel
theorem w_186 : Cond.fieldLink "QuarterWalks$Book" 51 "QuarterWalks$Book" "past" "I" ∈ wAll := wI1 91 (by decide +kernel) (by decide +kernel)
theorem fl_X0_51 : fl RX0 51 1 0 := ⟨RX0, TX0, 6, rfl, inA_X0, by decide, w_186⟩
theorem dX0_remember_34 : decode cX0_remember 34 = .ok (.iconst 1, 1) := by decide +kernel
theorem dX0_remember_35 : decode cX0_remember 35 = .ok (.iadd, 1) := by decide +kernel
theorem dX0_remember_36 : decode cX0_remember 36 = .ok (.bipush 12, 2) := by decide +kernel
theorem dX0_remember_38 : decode cX0_remember 38 = .ok (.invokestatic 54, 3) := by decide +kernel
theorem w_589 : Cond.methodLink "QuarterWalks$Book" 54 yJ9_min_7cf53 ∈ wAll := wI3 14 (by decide +kernel) (by decide +kernel)
theorem dX0_remember_41 : decode cX0_remember 41 = .ok (.putfield 51, 3) := by decide +kernel
theorem flw_X0_51 : flw RX0 51 1 0 (.int) := ⟨RX0, TX0, 6, tyX0, rfl, inA_X0, by decide, w_186, tyX0_ok, nmX0, by decide +kernel, Or.inl rfl⟩
theorem dX0_remember_44 : decode cX0_remember 44 = .ok (.return_, 1) := by decide +kernel
theorem dX0_add_0 : decode cX0_add 0 = .ok (.aload_n 0, 1) := by decide +kernel
theorem dX0_add_1 : decode cX0_add 1 = .ok (.invokevirtual 37, 3) := by decide +kernel
theorem w_580 : Cond.methodLink "QuarterWalks$Book" 37 yX0_isFull ∈ wAll := wI3 5 (by decide +kernel) (by decide +kernel)
theorem w_525 : Cond.selects yX0_isFull.cls yX0_isFull yX0_isFull ∈ wAll := wI2 190 (by decide +kernel) (by decide +kernel)
theorem mk_X0_isFull : mk yX0_isFull 0 := ⟨by decide +kernel, w_98⟩
theorem w_524 : Cond.instanceMethod yX0_isFull ∈ wAll := wI2 189 (by decide +kernel) (by decide +kernel)
theorem w_526 : Cond.code yX0_isFull cX0_isFull 1 (some .boolean) ∈ wAll := wI2 191 (by decide +kernel) (by decide +kernel)
theorem dX0_add_4 : decode cX0_add 4 = .ok (.ifCond .eq 5, 3) := by decide +kernel
theorem dX0_add_9 : decode cX0_add 9 = .ok (.aload_n 0, 1) := by decide +kernel
theorem dX0_add_10 : decode cX0_add 10 = .ok (.invokevirtual 41, 3) := by decide +kernel
theorem w_581 : Cond.methodLink "QuarterWalks$Book" 41 yX0_remember ∈ wAll := wI3 6 (by decide +kernel) (by decide +kernel)
theorem w_9 : Cond.selects yX0_remember.cls yX0_remember yX0_remember ∈ wAll := wIn 9 (by decide +kernel) (by decide +kernel)
theorem mk_X0_remember : mk yX0_remember 0 := ⟨by decide +kernel, w_98⟩
theorem w_583 : Cond.instanceMethod yX0_remember ∈ wAll := wI3 8 (by decide +kernel) (by decide +kernel)
theorem w_584 : Cond.code yX0_remember cX0_remember 1 none ∈ wAll := wI3 9 (by decide +kernel) (by decide +kernel)
theorem dX0_add_13 : decode cX0_add 13 = .ok (.aload_n 0, 1) := by decide +kernel
theorem dX0_add_14 : decode cX0_add 14 = .ok (.getfield 12, 3) := by decide +kernel
theorem dX0_add_17 : decode cX0_add 17 = .ok (.getfield 33, 3) := by decide +kernel
theorem dX0_add_20 : decode cX0_add 20 = .ok (.aload_n 0, 1) := by decide +kernel
theorem dX0_add_21 : decode cX0_add 21 = .ok (.getfield 12, 3) := by decide +kernel
theorem dX0_add_24 : decode cX0_add 24 = .ok (.getfield 25, 3) := by decide +kernel
theorem dX0_add_27 : decode cX0_add 27 = .ok (.aload_n 1, 1) := by decide +kernel
theorem dX0_add_28 : decode cX0_add 28 = .ok (.aastore, 1) := by decide +kernel
theorem dX0_add_29 : decode cX0_add 29 = .ok (.aload_n 0, 1) := by decide +kernel
theorem dX0_add_30 : decode cX0_add 30 = .ok (.getfield 12, 3) := by decide +kernel
theorem dX0_add_33 : decode cX0_add 33 = .ok (.dup, 1) := by decide +kernel
theorem dX0_add_34 : decode cX0_add 34 = .ok (.getfield 25, 3) := by decide +kernel
theorem dX0_add_37 : decode cX0_add 37 = .ok (.iconst 1, 1) := by decide +kernel
theorem dX0_add_38 : decode cX0_add 38 = .ok (.iadd, 1) := by decide +kernel
theorem dX0_add_39 : decode cX0_add 39 = .ok (.putfield 25, 3) := by decide +kernel
theorem flw_X0_25 : flw RX0 25 6 1 (.int) := ⟨RX5, TX5, 2, tyX5, rfl, inA_X5, by decide, w_178, tyX5_ok, nmX5, by decide +kernel, Or.inl rfl⟩
theorem dX0_add_42 : decode cX0_add 42 = .ok (.aload_n 0, 1) := by decide +kernel
theorem dX0_add_43 : decode cX0_add 43 = .ok (.getfield 12, 3) := by decide +kernel
theorem dX0_add_46 : decode cX0_add 46 = .ok (.getfield 25, 3) := by decide +kernel
theorem dX0_add_49 : decode cX0_add 49 = .ok (.iconst 1, 1) := by decide +kernel
theorem dX0_add_50 : decode cX0_add 50 = .ok (.isub, 1) := by decide +kernel
theorem dX0_add_51 : decode cX0_add 51 = .ok (.ireturn, 1) := by decide +kernel
theorem dX0_replace_0 : decode cX0_replace 0 = .ok (.iload_n 1, 1) := by decide +kernel
theorem dX0_replace_1 : decode cX0_replace 1 = .ok (.iconst 0, 1) := by decide +kernel
theorem dX0_replace_2 : decode cX0_replace 2 = .ok (.aload_n 0, 1) := by decide +kernel
theorem dX0_replace_3 : decode cX0_replace 3 = .ok (.getfield 12, 3) := by decide +kernel
theorem dX0_replace_6 : decode cX0_replace 6 = .ok (.getfield 25, 3) := by decide +kernel
theorem dX0_replace_9 : decode cX0_replace 9 = .ok (.iconst 1, 1) := by decide +kernel
theorem dX0_replace_10 : decode cX0_replace 10 = .ok (.isub, 1) := by decide +kernel
theorem dX0_replace_11 : decode cX0_replace 11 = .ok (.invokestatic 29, 3) := by decide +kernel
theorem dX0_replace_14 : decode cX0_replace 14 = .ok (.ifCond .eq 17, 3) := by decide +kernel
theorem dX0_replace_17 : decode cX0_replace 17 = .ok (.aload_n 0, 1) := by decide +kernel
theorem dX0_replace_18 : decode cX0_replace 18 = .ok (.invokevirtual 41, 3) := by decide +kernel
theorem dX0_replace_21 : decode cX0_replace 21 = .ok (.aload_n 0, 1) := by decide +kernel
theorem dX0_replace_22 : decode cX0_replace 22 = .ok (.getfield 12, 3) := by decide +kernel
theorem dX0_replace_25 : decode cX0_replace 25 = .ok (.getfield 33, 3) := by decide +kernel
theorem dX0_replace_28 : decode cX0_replace 28 = .ok (.iload_n 1, 1) := by decide +kernel
theorem dX0_replace_29 : decode cX0_replace 29 = .ok (.aload_n 2, 1) := by decide +kernel
theorem dX0_replace_30 : decode cX0_replace 30 = .ok (.aastore, 1) := by decide +kernel
theorem dX0_replace_31 : decode cX0_replace 31 = .ok (.return_, 1) := by decide +kernel
theorem dX0_remove_0 : decode cX0_remove 0 = .ok (.iload_n 1, 1) := by decide +kernel
theorem dX0_remove_1 : decode cX0_remove 1 = .ok (.iconst 0, 1) := by decide +kernel
theorem dX0_remove_2 : decode cX0_remove 2 = .ok (.aload_n 0, 1) := by decide +kernel
theorem dX0_remove_3 : decode cX0_remove 3 = .ok (.getfield 12, 3) := by decide +kernel
theorem dX0_remove_6 : decode cX0_remove 6 = .ok (.getfield 25, 3) := by decide +kernel
theorem dX0_remove_9 : decode cX0_remove 9 = .ok (.iconst 1, 1) := by decide +kernel
theorem dX0_remove_10 : decode cX0_remove 10 = .ok (.isub, 1) := by decide +kernel
theorem dX0_remove_11 : decode cX0_remove 11 = .ok (.invokestatic 29, 3) := by decide +kernel
theorem dX0_remove_14 : decode cX0_remove 14 = .ok (.ifCond .ne 5, 3) := by decide +kernel
theorem dX0_remove_19 : decode cX0_remove 19 = .ok (.aload_n 0, 1) := by decide +kernel
theorem dX0_remove_20 : decode cX0_remove 20 = .ok (.invokevirtual 41, 3) := by decide +kernel
theorem dX0_remove_23 : decode cX0_remove 23 = .ok (.iload_n 1, 1) := by decide +kernel
theorem dX0_remove_24 : decode cX0_remove 24 = .ok (.istore_n 2, 1) := by decide +kernel
theorem dX0_remove_25 : decode cX0_remove 25 = .ok (.iload_n 2, 1) := by decide +kernel
theorem dX0_remove_26 : decode cX0_remove 26 = .ok (.iconst 1, 1) := by decide +kernel
theorem dX0_remove_27 : decode cX0_remove 27 = .ok (.iadd, 1) := by decide +kernel
theorem dX0_remove_28 : decode cX0_remove 28 = .ok (.aload_n 0, 1) := by decide +kernel
theorem dX0_remove_29 : decode cX0_remove 29 = .ok (.getfield 12, 3) := by decide +kernel
theorem dX0_remove_32 : decode cX0_remove 32 = .ok (.getfield 25, 3) := by decide +kernel
theorem dX0_remove_35 : decode cX0_remove 35 = .ok (.if_icmp .ge 29, 3) := by decide +kernel
theorem dX0_remove_64 : decode cX0_remove 64 = .ok (.aload_n 0, 1) := by decide +kernel
theorem dX0_remove_65 : decode cX0_remove 65 = .ok (.getfield 12, 3) := by decide +kernel
theorem dX0_remove_68 : decode cX0_remove 68 = .ok (.dup, 1) := by decide +kernel
theorem dX0_remove_69 : decode cX0_remove 69 = .ok (.getfield 25, 3) := by decide +kernel
theorem dX0_remove_72 : decode cX0_remove 72 = .ok (.iconst 1, 1) := by decide +kernel
theorem dX0_remove_73 : decode cX0_remove 73 = .ok (.isub, 1) := by decide +kernel
theorem dX0_remove_74 : decode cX0_remove 74 = .ok (.putfield 25, 3) := by decide +kernel
theorem dX0_remove_77 : decode cX0_remove 77 = .ok (.aload_n 0, 1) := by decide +kernel
theorem dX0_remove_78 : decode cX0_remove 78 = .ok (.getfield 12, 3) := by decide +kernel
theorem dX0_remove_81 : decode cX0_remove 81 = .ok (.getfield 33, 3) := by decide +kernel
theorem dX0_remove_84 : decode cX0_remove 84 = .ok (.aload_n 0, 1) := by decide +kernel
theorem dX0_remove_85 : decode cX0_remove 85 = .ok (.getfield 12, 3) := by decide +kernel
theorem dX0_remove_88 : decode cX0_remove 88 = .ok (.getfield 25, 3) := by decide +kernel
theorem dX0_remove_91 : decode cX0_remove 91 = .ok (.aconst_null, 1) := by decide +kernel
theorem dX0_remove_92 : decode cX0_remove 92 = .ok (.aastore, 1) := by decide +kernel
theorem dX0_remove_93 : decode cX0_remove 93 = .ok (.aload_n 0, 1) := by decide +kernel
theorem dX0_remove_94 : decode cX0_remove 94 = .ok (.getfield 12, 3) := by decide +kernel
theorem dX0_remove_97 : decode cX0_remove 97 = .ok (.getfield 25, 3) := by decide +kernel
theorem dX0_remove_38 : decode cX0_remove 38 = .ok (.aload_n 0, 1) := by decide +kernel
theorem dX0_remove_39 : decode cX0_remove 39 = .ok (.getfield 12, 3) := by decide +kernel
theorem dX0_remove_42 : decode cX0_remove 42 = .ok (.getfield 33, 3) := by decide +kernel
theorem dX0_remove_45 : decode cX0_remove 45 = .ok (.iload_n 2, 1) := by decide +kernel
theorem dX0_remove_46 : decode cX0_remove 46 = .ok (.aload_n 0, 1) := by decide +kernel
theorem dX0_remove_47 : decode cX0_remove 47 = .ok (.getfield 12, 3) := by decide +kernel
theorem dX0_remove_50 : decode cX0_remove 50 = .ok (.getfield 33, 3) := by decide +kernel
theorem dX0_remove_53 : decode cX0_remove 53 = .ok (.iload_n 2, 1) := by decide +kernel
theorem dX0_remove_54 : decode cX0_remove 54 = .ok (.iconst 1, 1) := by decide +kernel
theorem dX0_remove_55 : decode cX0_remove 55 = .ok (.iadd, 1) := by decide +kernel
theorem dX0_remove_56 : decode cX0_remove 56 = .ok (.aaload, 1) := by decide +kernel
theorem dX0_remove_57 : decode cX0_remove 57 = .ok (.aastore, 1) := by decide +kernel
theorem dX0_remove_58 : decode cX0_remove 58 = .ok (.iinc 2 1, 3) := by decide +kernel
theorem dX0_remove_61 : decode cX0_remove 61 = .ok (.goto (-36), 3) := by decide +kernel
theorem dX0_remove_100 : decode cX0_remove 100 = .ok (.ireturn, 1) := by decide +kernel
theorem dX0_takeBack_0 : decode cX0_takeBack 0 = .ok (.aload_n 0, 1) := by decide +kernel
theorem dX0_takeBack_1 : decode cX0_takeBack 1 = .ok (.getfield 51, 3) := by decide +kernel
theorem dX0_takeBack_4 : decode cX0_takeBack 4 = .ok (.ifCond .ne 5, 3) := by decide +kernel
theorem dX0_takeBack_9 : decode cX0_takeBack 9 = .ok (.aload_n 0, 1) := by decide +kernel
theorem dX0_takeBack_10 : decode cX0_takeBack 10 = .ok (.aload_n 0, 1) := by decide +kernel
theorem dX0_takeBack_11 : decode cX0_takeBack 11 = .ok (.getfield 44, 3) := by decide +kernel
theorem dX0_takeBack_14 : decode cX0_takeBack 14 = .ok (.bipush 12, 2) := by decide +kernel
theorem dX0_takeBack_16 : decode cX0_takeBack 16 = .ok (.iadd, 1) := by decide +kernel
theorem dX0_takeBack_17 : decode cX0_takeBack 17 = .ok (.iconst 1, 1) := by decide +kernel
theorem dX0_takeBack_18 : decode cX0_takeBack 18 = .ok (.isub, 1) := by decide +kernel
theorem dX0_takeBack_19 : decode cX0_takeBack 19 = .ok (.bipush 12, 2) := by decide +kernel
theorem dX0_takeBack_21 : decode cX0_takeBack 21 = .ok (.irem, 1) := by decide +kernel
theorem dX0_takeBack_22 : decode cX0_takeBack 22 = .ok (.putfield 44, 3) := by decide +kernel
theorem dX0_takeBack_25 : decode cX0_takeBack 25 = .ok (.aload_n 0, 1) := by decide +kernel
theorem dX0_takeBack_26 : decode cX0_takeBack 26 = .ok (.getfield 12, 3) := by decide +kernel
theorem dX0_takeBack_29 : decode cX0_takeBack 29 = .ok (.aload_n 0, 1) := by decide +kernel
theorem dX0_takeBack_30 : decode cX0_takeBack 30 = .ok (.getfield 21, 3) := by decide +kernel
theorem dX0_takeBack_33 : decode cX0_takeBack 33 = .ok (.aload_n 0, 1) := by decide +kernel
theorem dX0_takeBack_34 : decode cX0_takeBack 34 = .ok (.getfield 44, 3) := by decide +kernel
theorem dX0_takeBack_37 : decode cX0_takeBack 37 = .ok (.aaload, 1) := by decide +kernel
theorem dX0_takeBack_38 : decode cX0_takeBack 38 = .ok (.invokevirtual 47, 3) := by decide +kernel
theorem dX0_takeBack_41 : decode cX0_takeBack 41 = .ok (.aload_n 0, 1) := by decide +kernel
theorem dX0_takeBack_42 : decode cX0_takeBack 42 = .ok (.dup, 1) := by decide +kernel
theorem dX0_takeBack_43 : decode cX0_takeBack 43 = .ok (.getfield 51, 3) := by decide +kernel
theorem dX0_takeBack_46 : decode cX0_takeBack 46 = .ok (.iconst 1, 1) := by decide +kernel
theorem dX0_takeBack_47 : decode cX0_takeBack 47 = .ok (.isub, 1) := by decide +kernel
theorem dX0_takeBack_48 : decode cX0_takeBack 48 = .ok (.putfield 51, 3) := by decide +kernel
theorem dX0_takeBack_51 : decode cX0_takeBack 51 = .ok (.aload_n 0, 1) := by decide +kernel
theorem dX0_takeBack_52 : decode cX0_takeBack 52 = .ok (.getfield 51, 3) := by decide +kernel
theorem dX0_takeBack_7 : decode cX0_takeBack 7 = .ok (.iconst (-1), 1) := by decide +kernel
theorem dX0_takeBack_55 : decode cX0_takeBack 55 = .ok (.ireturn, 1) := by decide +kernel
theorem dX0_takeBack_8 : decode cX0_takeBack 8 = .ok (.ireturn, 1) := by decide +kernel
theorem dX0_keep_0 : decode cX0_keep 0 = .ok (.aload_n 0, 1) := by decide +kernel
theorem dX0_keep_1 : decode cX0_keep 1 = .ok (.getfield 18, 3) := by decide +kernel
theorem w_189 : Cond.fieldLink "QuarterWalks$Book" 18 "QuarterWalks$Book" "kept" "LQuarterWalks$Shelf;" ∈ wAll := wI1 94 (by decide +kernel) (by decide +kernel)
theorem fl_X0_18 : fl RX0 18 1 2 := ⟨RX0, TX0, 6, rfl, inA_X0, by decide, w_189⟩
theorem dX0_keep_4 : decode cX0_keep 4 = .ok (.aload_n 0, 1) := by decide +kernel
theorem dX0_keep_5 : decode cX0_keep 5 = .ok (.getfield 12, 3) := by decide +kernel
theorem dX0_keep_8 : decode cX0_keep 8 = .ok (.invokevirtual 47, 3) := by decide +kernel
theorem dX0_keep_11 : decode cX0_keep 11 = .ok (.aload_n 0, 1) := by decide +kernel
theorem dX0_keep_12 : decode cX0_keep 12 = .ok (.iconst 1, 1) := by decide +kernel
theorem dX0_keep_13 : decode cX0_keep 13 = .ok (.putfield 60, 3) := by decide +kernel
theorem w_191 : Cond.fieldLink "QuarterWalks$Book" 60 "QuarterWalks$Book" "isKept" "Z" ∈ wAll := wI1 96 (by decide +kernel) (by decide +kernel)
theorem flw_X0_60 : flw RX0 60 1 4 (.boolean) := ⟨RX0, TX0, 6, tyX0, rfl, inA_X0, by decide, w_191, tyX0_ok, nmX0, by decide +kernel, Or.inl rfl⟩
theorem dX0_keep_16 : decode cX0_keep 16 = .ok (.aload_n 0, 1) := by decide +kernel
theorem dX0_keep_17 : decode cX0_keep 17 = .ok (.getfield 12, 3) := by decide +kernel
theorem dX0_keep_20 : decode cX0_keep 20 = .ok (.getfield 25, 3) := by decide +kernel
theorem dX0_keep_23 : decode cX0_keep 23 = .ok (.ireturn, 1) := by decide +kernel
theorem dX0_restore_0 : decode cX0_restore 0 = .ok (.aload_n 0, 1) := by decide +kernel
theorem dX0_restore_1 : decode cX0_restore 1 = .ok (.getfield 60, 3) := by decide +kernel
theorem fl_X0_60 : fl RX0 60 1 4 := ⟨RX0, TX0, 6, rfl, inA_X0, by decide, w_191⟩
theorem dX0_restore_4 : decode cX0_restore 4 = .ok (.ifCond .ne 5, 3) := by decide +kernel
theorem dX0_restore_9 : decode cX0_restore 9 = .ok (.aload_n 0, 1) := by decide +kernel
theorem dX0_restore_10 : decode cX0_restore 10 = .ok (.getfield 12, 3) := by decide +kernel
theorem dX0_restore_13 : decode cX0_restore 13 = .ok (.aload_n 0, 1) := by decide +kernel
theorem dX0_restore_14 : decode cX0_restore 14 = .ok (.getfield 18, 3) := by decide +kernel
theorem dX0_restore_17 : decode cX0_restore 17 = .ok (.invokevirtual 47, 3) := by decide +kernel
theorem dX0_restore_20 : decode cX0_restore 20 = .ok (.aload_n 0, 1) := by decide +kernel
theorem dX0_restore_21 : decode cX0_restore 21 = .ok (.iconst 0, 1) := by decide +kernel
theorem dX0_restore_22 : decode cX0_restore 22 = .ok (.putfield 51, 3) := by decide +kernel
theorem dX0_restore_25 : decode cX0_restore 25 = .ok (.aload_n 0, 1) := by decide +kernel
theorem dX0_restore_26 : decode cX0_restore 26 = .ok (.getfield 12, 3) := by decide +kernel
theorem dX0_restore_29 : decode cX0_restore 29 = .ok (.getfield 25, 3) := by decide +kernel
theorem dX0_restore_7 : decode cX0_restore 7 = .ok (.iconst (-1), 1) := by decide +kernel
theorem dX0_restore_32 : decode cX0_restore 32 = .ok (.ireturn, 1) := by decide +kernel
theorem dX0_restore_8 : decode cX0_restore 8 = .ok (.ireturn, 1) := by decide +kernel
abbrev rm_s_X0_findX : Room := { frames := 1, cells := 0, slots := 0, locals := 22 }
set_option maxRecDepth 100000 in
set_option maxHeartbeats 4000000 in
theorem s_X0_findX (l : Launch) (D : va_G) (G : Nat → Nat) (b0 : Nat) (τ : Nat → Nat) (f : hM) (t : TI G 9 τ f) (u0 : Nat) (hu0 : τ u0 = 12) (u1 : Int32) (hu1 : iv u1 (-2147483648) 2147483647) (sn : Nat) (hsn : τ sn = 15) (k_u0_1 : atp f u0 (fd 1 (.ref sn))) (qn : Nat) (hqn : τ qn = 4) (k_sn_0 : atp f sn (fd 0 (.ref qn))) (sz : Int32) (hsz : iv sz 0 8) (k_sn_1 : atp f sn (fd 1 (.int sz))) (rn : Nat → Option Nat) (hRqn : atp f qn (eqr G 4 8 rn)) : mQ l yX0_find cX0_find 2 (.object "QuarterWalks$StepSet") rm_s_X0_findX D G b0 f [.ref u0, .int u1] (fun r f1 => (∀ z, r = some z → τ z = 1) ∧ TI G 9 τ f1 ∧ Fr [] τ f f1 ∧ (r = if 0 ≤ u1.toInt ∧ u1.toInt < sz.toInt then rn u1.toInt.toNat else none)) := by
  refine met2 (own := RX0) (by decide) rfl (Nat.le_of_ble_eq_true rfl) ?_
  intro p e s m args below meth c ls Q hQ C hr hini hl h
  have hl : lv_has ls 2 [(0, .ref u0), (1, .int u1)] := hl
  obtain ⟨hx, hb, hml, hown, hts, hE0, hlk⟩ := id C
  have o := Fr.rf [] τ f
  refine lv_iload_n hx hb dX0_find_0 rfl (lv_at hl 1 rfl) ?_
  refine lv_iconst (v := 0) hx hb dX0_find_1 (by decide) ?_
  refine lv_aload_n hx hb dX0_find_2 rfl (lv_at hl 0 rfl) ?_
  refine t_getfd C h t hu0 (by decide) wf_12 (v := .ref sn) k_u0_1 fl_X0_12 dX0_find_3 ?_
  refine t_getfd C h t hsn (by decide) wf_15 (v := .int sz) k_sn_1 fl_X0_25 dX0_find_6 ?_
  refine lv_iconst (v := 1) hx hb dX0_find_9 (by decide) ?_
  refine i_subk hx hb dX0_find_10 hsz (k := 1) rfl (lo := (-1)) (hi := 7) (by decide) (fun z1 ez1 mz1 iz1 => ?_)
  refine k_i (r_SN C h hl (host := "QuarterWalks") (As := [.int u1, .int 0, .int z1]) (rest := []) (s_X10_within l D G b0 τ f t u1 hu1 0 (iv_w (iv_k (x := 0) (k := 0) rfl) (by decide)) z1 (iv_w iz1 (by decide))) mk_X10_within (by decide) w_426 w_427 ⟨Nat.le_of_ble_eq_true rfl, Nat.le_of_ble_eq_true rfl⟩ rfl (Nat.le_of_ble_eq_true rfl) ⟨Nat.le_of_ble_eq_true rfl, Nat.le_of_ble_eq_true rfl⟩ rfl dX0_find_11) h (fun r2 f3 H locs p4 h => ?_)
  have n5 : (0 : Int32).toInt = 0 := rfl
  obtain ⟨ir2, tf3, ogf3, cnr2, czr2⟩ := p4
  have egf3 := Fr.nil2 ogf3
  subst egf3
  refine lv_if_eq (tgt := 29) hx hb dX0_find_14 (by decide) (fun c6 => ?_) (fun c6 => ?_)
  · have c7 : r2.toInt = 0 := congrArg Int32.toInt c6
    have i8 : iv r2 0 0 := iv_Q c7 ir2 (iv_k (x := 0) (k := 0) rfl) (by decide)
    have i9 := czr2 c7
    refine lv_null hx hb dX0_find_29 ?_
    exact u_aret C h hr (Or.inl ⟨_, rfl⟩) hQ (v := none) (⟨(fun z_ h_ => by cases h_), t, o, (by rw [if_neg (by omega)])⟩) (Nat.le_of_ble_eq_true rfl) (Nat.le_of_ble_eq_true rfl) rfl dX0_find_30
  · have c10 : r2.toInt ≠ 0 := fun z_ => c6 (Int32.toInt_inj.mp z_)
    have i11 : iv r2 1 1 := iv_Nl c10 ir2 (by decide)
    obtain ⟨i12, i13⟩ := cnr2 c10
    have i14 : iv u1 0 7 := ⟨by omega, by omega⟩
    refine lv_aload_n hx hb dX0_find_17 rfl (lv_at hl 0 rfl) ?_
    refine t_getfd C h t hu0 (by decide) wf_12 (v := .ref sn) k_u0_1 fl_X0_12 dX0_find_18 ?_
    refine t_getfd C h t hsn (by decide) wf_15 (v := .ref qn) k_sn_0 fl_X0_33 dX0_find_21 ?_
    refine lv_iload_n hx hb dX0_find_24 rfl (lv_at hl 1 rfl) ?_
    refine e_aaldO C h t (g := 4) rfl hqn (by decide) wf_4 hRqn (iv_in i14 (by decide)) dX0_find_25 (fun q15 eq15 tq15 => ?_)
    refine lv_goto (tgt := 30) hx hb dX0_find_26 (by decide) ?_
    exact u_aret C h hr (Or.inl ⟨_, rfl⟩) hQ (v := q15) (⟨tq15, t, o, (by rw [if_pos (by omega)]; exact eq15)⟩) (Nat.le_of_ble_eq_true rfl) (Nat.le_of_ble_eq_true rfl) rfl dX0_find_30
abbrev rm_s_X0_isFullX : Room := { frames := 0, cells := 0, slots := 0, locals := 0 }
set_option maxRecDepth 100000 in
set_option maxHeartbeats 4000000 in
theorem s_X0_isFullX (l : Launch) (D : va_G) (G : Nat → Nat) (b0 : Nat) (τ : Nat → Nat) (f : hM) (t : TI G 9 τ f) (u0 : Nat) (hu0 : τ u0 = 12) (sn : Nat) (hsn : τ sn = 15) (k_u0_1 : atp f u0 (fd 1 (.ref sn))) (qn : Nat) (hqn : τ qn = 4) (k_sn_0 : atp f sn (fd 0 (.ref qn))) (sz : Int32) (hsz : iv sz 0 8) (k_sn_1 : atp f sn (fd 1 (.int sz))) : mI l yX0_isFull cX0_isFull 1 (.boolean) rm_s_X0_isFullX D G b0 f [.ref u0] (fun r f1 => iv r 0 1 ∧ TI G 9 τ f1 ∧ Fr [] τ f f1 ∧ (r.toInt ≠ 0 → 8 ≤ sz.toInt) ∧ (r.toInt = 0 → sz.toInt ≤ 7)) := by
  refine met2 (own := RX0) (by decide) rfl (Nat.le_of_ble_eq_true rfl) ?_
  intro p e s m args below meth c ls Q hQ C hr hini hl h
  have hl : lv_has ls 1 [(0, .ref u0)] := hl
  obtain ⟨hx, hb, hml, hown, hts, hE0, hlk⟩ := id C
  have o := Fr.rf [] τ f
  refine lv_aload_n hx hb dX0_isFull_0 rfl (lv_at hl 0 rfl) ?_
  refine t_getfd C h t hu0 (by decide) wf_12 (v := .ref sn) k_u0_1 fl_X0_12 dX0_isFull_1 ?_
  refine t_getfd C h t hsn (by decide) wf_15 (v := .int sz) k_sn_1 fl_X0_25 dX0_isFull_4 ?_
  refine lv_bipush (v := 8) hx hb dX0_isFull_7 (by decide) ?_
  refine lv_icmp_lt (tgt := 16) hx hb dX0_isFull_9 (by decide) (fun c1 => ?_) (fun c1 => ?_)
  · have c2 : sz.toInt < 8 := Int32.lt_iff_toInt_lt.mp c1
    have i3 : iv sz 0 7 := iv_Ll c2 hsz (iv_k (x := 8) (k := 8) rfl) (by decide)
    refine lv_iconst (v := 0) hx hb dX0_isFull_16 (by decide) ?_
    exact u_zret C h hr hQ ⟨by decide, by decide⟩ (⟨⟨by decide, by decide⟩, t, o, (fun h_ => absurd h_ (by decide)), (fun _ => (by omega))⟩) (Nat.le_of_ble_eq_true rfl) (Nat.le_of_ble_eq_true rfl) dX0_isFull_17
  · have c4 : 8 ≤ sz.toInt := Int32.le_iff_toInt_le.mp (iv_nlt c1)
    have i5 : iv sz 8 8 := iv_Er c4 (iv_k (x := 8) (k := 8) rfl) hsz (by decide)
    refine lv_iconst (v := 1) hx hb dX0_isFull_12 (by decide) ?_
    refine lv_goto (tgt := 17) hx hb dX0_isFull_13 (by decide) ?_
    exact u_zret C h hr hQ ⟨by decide, by decide⟩ (⟨⟨by decide, by decide⟩, t, o, (fun _ => (by omega)), (fun h_ => absurd h_ (by decide))⟩) (Nat.le_of_ble_eq_true rfl) (Nat.le_of_ble_eq_true rfl) dX0_isFull_17
abbrev rm_s_X0_rememberX : Room := { frames := 1, cells := 0, slots := 0, locals := 22 }
set_option maxRecDepth 100000 in
set_option maxHeartbeats 4000000 in
theorem s_X0_rememberX (l : Launch) (D : va_G) (G : Nat → Nat) (b0 : Nat) (τ : Nat → Nat) (f : hM) (t : TI G 9 τ f) (u0 : Nat) (hu0 : τ u0 = 12) (sq : Nat) (hsq : τ sq = 18) (ac : Int32) (hac : iv ac 0 12) (k_u0_0 : atp f u0 (fd 0 (.int ac))) (nx : Int32) (hnx : iv nx 0 11) (k_u0_5 : atp f u0 (fd 5 (.int nx))) (sn : Nat) (hsn : τ sn = 15) (k_u0_1 : atp f u0 (fd 1 (.ref sn))) (bf : Nat) (hbf : τ bf = 17) (k_u0_3 : atp f u0 (fd 3 (.ref bf))) (qn : Nat) (hqn : τ qn = 4) (k_sn_0 : atp f sn (fd 0 (.ref qn))) (sz : Int32) (hsz : iv sz 0 8) (k_sn_1 : atp f sn (fd 1 (.int sz))) (qa : Nat) (hqa : τ qa = 4) (k_sq_0 : atp f sq (fd 0 (.ref qa))) (rn : Nat → Option Nat) (hRqn : atp f qn (eqr G 4 8 rn)) (rf : Nat → Option Nat) (hRbf : atp f bf (eqr G 3 12 rf)) (ra : Nat → Option Nat) (hRqa : atp f qa (eqr G 4 8 ra)) (esq : rf nx.toInt.toNat = some sq) (hab : qn ≠ qa)  : mV l yX0_remember cX0_remember 1 rm_s_X0_rememberX D G b0 f [.ref u0] (fun f1 => TI G 9 τ f1 ∧ Fr [4, 12, 18, 12001, 12006, 18002] τ f f1 ∧ (∃ nx1 : Int32, atp f1 u0 (fd 5 (.int nx1)) ∧ iv nx1 0 11 ∧ nx1.toInt = (nx.toInt + 1) % 12) ∧ (∃ ac1 : Int32, atp f1 u0 (fd 0 (.int ac1)) ∧ iv ac1 0 12 ∧ ((ac.toInt = 12 → ac1.toInt = 12) ∧ (ac.toInt ≠ 12 → ac1.toInt = ac.toInt + 1))) ∧ (∃ sza : Int32, atp f1 sq (fd 1 (.int sza)) ∧ iv sza 0 8 ∧ sza.toInt = sz.toInt) ∧ (∃ ra1 : Nat → Option Nat, atp f1 qa (eqr G 4 8 ra1) ∧ (∀ k : Nat, k < 8 → ra1 k = rn k)) ∧ FX [qa, sq, u0] f f1) := by
  refine met2 (own := RX0) (by decide) rfl (Nat.le_of_ble_eq_true rfl) ?_
  intro p e s m args below meth c ls Q hQ C hr hini hl h
  have hl : lv_has ls 1 [(0, .ref u0)] := hl
  obtain ⟨hx, hb, hml, hown, hts, hE0, hlk⟩ := id C
  have o := Fr.rf [4, 12, 18, 12001, 12006, 18002] τ f
  have hfx := FX.rf [qa, sq, u0] f
  refine lv_aload_n hx hb dX0_remember_0 rfl (lv_at hl 0 rfl) ?_
  refine t_getfd C h t hu0 (by decide) wf_12 (v := .ref bf) k_u0_3 fl_X0_21 dX0_remember_1 ?_
  refine lv_aload_n hx hb dX0_remember_4 rfl (lv_at hl 0 rfl) ?_
  refine t_getfd C h t hu0 (by decide) wf_12 (v := .int nx) k_u0_5 fl_X0_44 dX0_remember_5 ?_
  refine e_aaldR C h t (g := 3) rfl hbf (by decide) wf_17 hRbf (iv_in hnx (by decide)) dX0_remember_8 (fun q1 eq1 tq1 => ?_)
  obtain rfl : sq = q1 := (Option.some.inj (eq1.symm.trans ((congrArg rf (by omega)).trans esq))).symm
  refine lv_aload_n hx hb dX0_remember_9 rfl (lv_at hl 0 rfl) ?_
  refine t_getfd C h t hu0 (by decide) wf_12 (v := .ref sn) k_u0_1 fl_X0_12 dX0_remember_10 ?_
  obtain ⟨_, r2⟩ := t_rec t hsq (by decide) wf_18
  refine k_v (r_V C h hl (As := [.ref sn]) (rest := []) (s_X5_copy18_15 l D G b0 τ f t sq hsq sn hsn qa hqa k_sq_0 qn hqn k_sn_0 sz hsz k_sn_1 ra hRqa rn hRqn hab) r2 (Cn := RX5) (T := TX5) (N := 2) rfl rfl mk_X5_copy w_585 w_586 w_587 w_588 ⟨Nat.le_of_ble_eq_true rfl, Nat.le_of_ble_eq_true rfl⟩ rfl (Nat.le_of_ble_eq_true rfl) ⟨Nat.le_of_ble_eq_true rfl, Nat.le_of_ble_eq_true rfl⟩ rfl dX0_remember_13) h (fun f4 H locs p5 h => ?_)
  obtain ⟨tf4, ogf4, ⟨sz1_f4, kpu0_1f4, ipu0_1f4, rpu0_1f4⟩, ⟨ra1_f4, kRqaf4, pRqaf4⟩, fxf4⟩ := p5
  have of4 : Fr [4, 12, 18, 12001, 12006, 18002] τ f f4 := Fr.tr o ogf4 (by decide) (by decide)
  have k6 := atp.fr k_u0_0 ogf4 hu0 (by decide)
  have k7 := atp.fr k_u0_5 ogf4 hu0 (by decide)
  have k8 := atp.fr k_u0_1 ogf4 hu0 (by decide)
  have k9 := atp.fr k_u0_3 ogf4 hu0 (by decide)
  have k10 := atp.fr k_sn_0 ogf4 hsn (by decide)
  have k11 := atp.fr k_sn_1 ogf4 hsn (by decide)
  have k12 := atp.fk k_sq_0 ogf4 hsq (by decide) (by decide)
  have k13 := atp.fx hRqn fxf4 (nmc hab (nmc (ne_tg hqn hsq (by decide)) nm0))
  have k14 := atp.fr hRbf ogf4 hbf (by decide)
  have k15 := FX.tr hfx fxf4 (by simp)
  refine lv_aload_n hx hb dX0_remember_16 rfl (lv_at hl 0 rfl) ?_
  refine lv_aload_n hx hb dX0_remember_17 rfl (lv_at hl 0 rfl) ?_
  refine t_getfd C h tf4 hu0 (by decide) wf_12 (v := .int nx) k7 fl_X0_44 dX0_remember_18 ?_
  refine lv_iconst (v := 1) hx hb dX0_remember_21 (by decide) ?_
  refine i_addk hx hb dX0_remember_22 hnx (k := 1) rfl (lo := 1) (hi := 12) (by decide) (fun z16 ez16 mz16 iz16 => ?_)
  refine lv_bipush (v := 12) hx hb dX0_remember_23 (by decide) ?_
  refine lv_irem hx hb dX0_remember_25 (by decide) (i_topm (P := fun q_ => q_ = Int32.toInt z16 % 12) (iv_remx (k := 12) (iv_w iz16 (by decide) : iv _ 0 12) rfl (by decide)) (fun z17 ez17 mz17 iz17 => ?_))
  refine t_put C h tf4 of4 hu0 (by decide) (by decide) (by decide) wf_12 fw_12 (k := 5) rfl flw_X0_44 (Or.inr ⟨_, _, _, rfl, rfl⟩) (v := .int z17) rfl rfl ⟨_, rfl, iz17⟩ dX0_remember_26 (fun f18 H locs h tf18 of18 hq ha_ hn_ hk_ => ?_)
  have k19 := hk_ 0 _ (by decide) k6
  have k21 := hk_ 1 _ (by decide) k8
  have k22 := hk_ 3 _ (by decide) k9
  have k23 := atp.tg k10 hq hsn (by decide)
  have k24 := atp.tg k11 hq hsn (by decide)
  have k25 := atp.tg k12 hq hsq (by decide)
  have k26 := atp.tg k13 hq hqn (by decide)
  have k27 := atp.tg k14 hq hbf (by decide)
  have k28 := FX.up k15 hn_ (by simp)
  have k29 := atp.tg kpu0_1f4 hq hsq (by decide)
  have k30 := atp.tg kRqaf4 hq hqa (by decide)
  have k31 := ha_
  refine lv_aload_n hx hb dX0_remember_29 rfl (lv_at hl 0 rfl) ?_
  refine lv_aload_n hx hb dX0_remember_30 rfl (lv_at hl 0 rfl) ?_
  refine t_getfd C h tf18 hu0 (by decide) wf_12 (v := .int ac) k19 fl_X0_51 dX0_remember_31 ?_
  refine lv_iconst (v := 1) hx hb dX0_remember_34 (by decide) ?_
  refine i_addk hx hb dX0_remember_35 hac (k := 1) rfl (lo := 1) (hi := 13) (by decide) (fun z32 ez32 mz32 iz32 => ?_)
  refine lv_bipush (v := 12) hx hb dX0_remember_36 (by decide) ?_
  refine va_mmin hx hb (hml.trans hl.1.symm) hown (hts _ w_589) (hts _ w_548) (hts _ w_112) (hts _ w_549) (Nat.le_of_ble_eq_true rfl) (Nat.le_of_ble_eq_true rfl) (Nat.le_of_ble_eq_true rfl) (Nat.le_of_ble_eq_true rfl) dX0_remember_38 (i_min iz32 (iv_k (x := 12) (k := 12) rfl) (lo := 1) (hi := 12) (by decide) (fun z33 mz33 iz33 => ?_))
  have n34 : (12 : Int32).toInt = 12 := rfl
  refine t_put C h tf18 of18 hu0 (by decide) (by decide) (by decide) wf_12 fw_12 (k := 0) rfl flw_X0_51 (Or.inr ⟨_, _, _, rfl, rfl⟩) (v := .int z33) rfl rfl ⟨_, rfl, (iv_w iz33 (by decide))⟩ dX0_remember_41 (fun f35 H locs h tf35 of35 hq ha_ hn_ hk_ => ?_)
  have k37 := hk_ 1 _ (by decide) k21
  have k38 := hk_ 3 _ (by decide) k22
  have k39 := atp.tg k23 hq hsn (by decide)
  have k40 := atp.tg k24 hq hsn (by decide)
  have k41 := atp.tg k25 hq hsq (by decide)
  have k42 := atp.tg k26 hq hqn (by decide)
  have k43 := atp.tg k27 hq hbf (by decide)
  have k44 := FX.up k28 hn_ (by simp)
  have k45 := atp.tg k29 hq hsq (by decide)
  have k46 := atp.tg k30 hq hqa (by decide)
  have k47 := hk_ 5 _ (by decide) k31
  have k48 := ha_
  exact u_vret C h hr hQ (⟨tf35, of35, ⟨z17, k47, iz17, (by omega)⟩, ⟨z33, k48, (iv_w iz33 (by decide)), (by omega)⟩, ⟨sz1_f4, k45, ipu0_1f4, (by omega)⟩, ⟨ra1_f4, k46, pRqaf4⟩, k44⟩) (Nat.le_of_ble_eq_true rfl) (Nat.le_of_ble_eq_true rfl) dX0_remember_44
abbrev rm_s_X0_addX : Room := { frames := 2, cells := 0, slots := 0, locals := 42 }
set_option maxRecDepth 100000 in
set_option maxHeartbeats 4000000 in
theorem s_X0_addX (l : Launch) (D : va_G) (G : Nat → Nat) (b0 : Nat) (τ : Nat → Nat) (f : hM) (t : TI G 9 τ f) (u0 : Nat) (hu0 : τ u0 = 12) (u1 : Nat) (hu1 : τ u1 = 1) (sq : Nat) (hsq : τ sq = 18) (ac : Int32) (hac : iv ac 0 12) (k_u0_0 : atp f u0 (fd 0 (.int ac))) (nx : Int32) (hnx : iv nx 0 11) (k_u0_5 : atp f u0 (fd 5 (.int nx))) (sn : Nat) (hsn : τ sn = 15) (k_u0_1 : atp f u0 (fd 1 (.ref sn))) (bf : Nat) (hbf : τ bf = 17) (k_u0_3 : atp f u0 (fd 3 (.ref bf))) (qn : Nat) (hqn : τ qn = 4) (k_sn_0 : atp f sn (fd 0 (.ref qn))) (sz : Int32) (hsz : iv sz 0 8) (k_sn_1 : atp f sn (fd 1 (.int sz))) (qa : Nat) (hqa : τ qa = 4) (k_sq_0 : atp f sq (fd 0 (.ref qa))) (rn : Nat → Option Nat) (hRqn : atp f qn (eqr G 4 8 rn)) (rf : Nat → Option Nat) (hRbf : atp f bf (eqr G 3 12 rf)) (ra : Nat → Option Nat) (hRqa : atp f qa (eqr G 4 8 ra)) (esq : rf nx.toInt.toNat = some sq) (hab : qn ≠ qa)  (hr0 : sz.toInt ≤ 7) : mI l yX0_add cX0_add 2 (.int) rm_s_X0_addX D G b0 f [.ref u0, .ref u1] (fun r f1 => iv r 0 8 ∧ TI G 9 τ f1 ∧ Fr [4, 12, 15, 18, 12001, 12006, 15002, 18002] τ f f1 ∧ (r.toInt = sz.toInt) ∧ (∃ nx1 : Int32, atp f1 u0 (fd 5 (.int nx1)) ∧ iv nx1 0 11 ∧ nx1.toInt = (nx.toInt + 1) % 12) ∧ (∃ ac1 : Int32, atp f1 u0 (fd 0 (.int ac1)) ∧ iv ac1 0 12 ∧ ((ac.toInt = 12 → ac1.toInt = 12) ∧ (ac.toInt ≠ 12 → ac1.toInt = ac.toInt + 1))) ∧ (∃ sza : Int32, atp f1 sq (fd 1 (.int sza)) ∧ iv sza 0 8 ∧ sza.toInt = sz.toInt) ∧ (∃ szn : Int32, atp f1 sn (fd 1 (.int szn)) ∧ iv szn 0 8 ∧ szn.toInt = sz.toInt + 1) ∧ (∃ ra1 : Nat → Option Nat, atp f1 qa (eqr G 4 8 ra1) ∧ (∀ k : Nat, k < 8 → ra1 k = rn k)) ∧ (∃ rn1 : Nat → Option Nat, atp f1 qn (eqr G 4 8 rn1) ∧ (∀ k : Nat, rn1 k = if k = sz.toInt.toNat then some u1 else rn k)) ∧ FX [qa, sq, u0, qn, sn] f f1) := by
  refine met2 (own := RX0) (by decide) rfl (Nat.le_of_ble_eq_true rfl) ?_
  intro p e s m args below meth c ls Q hQ C hr hini hl h
  have hl : lv_has ls 2 [(0, .ref u0), (1, .ref u1)] := hl
  obtain ⟨hx, hb, hml, hown, hts, hE0, hlk⟩ := id C
  have o := Fr.rf [4, 12, 15, 18, 12001, 12006, 15002, 18002] τ f
  have hfx := FX.rf [qa, sq, u0, qn, sn] f
  refine lv_aload_n hx hb dX0_add_0 rfl (lv_at hl 0 rfl) ?_
  obtain ⟨_, r1⟩ := t_rec t hu0 (by decide) wf_12
  refine k_i (r_V C h hl (As := []) (rest := []) (s_X0_isFullX l D G b0 τ f t u0 hu0 sn hsn k_u0_1 qn hqn k_sn_0 sz hsz k_sn_1) r1 (Cn := RX0) (T := TX0) (N := 6) rfl rfl mk_X0_isFull w_580 w_524 w_525 w_526 ⟨Nat.le_of_ble_eq_true rfl, Nat.le_of_ble_eq_true rfl⟩ rfl (Nat.le_of_ble_eq_true rfl) ⟨Nat.le_of_ble_eq_true rfl, Nat.le_of_ble_eq_true rfl⟩ rfl dX0_add_1) h (fun r2 f3 H locs p4 h => ?_)
  obtain ⟨ir2, tf3, ogf3, cnr2, czr2⟩ := p4
  have egf3 := Fr.nil2 ogf3
  subst egf3
  refine lv_if_eq (tgt := 9) hx hb dX0_add_4 (by decide) (fun c5 => ?_) (fun c5 => ?_)
  · have c6 : r2.toInt = 0 := congrArg Int32.toInt c5
    have i7 : iv r2 0 0 := iv_Q c6 ir2 (iv_k (x := 0) (k := 0) rfl) (by decide)
    have i8 := czr2 c6
    refine lv_aload_n hx hb dX0_add_9 rfl (lv_at hl 0 rfl) ?_
    obtain ⟨_, r12⟩ := t_rec t hu0 (by decide) wf_12
    refine k_v (r_V C h hl (As := []) (rest := []) (s_X0_rememberX l D G b0 τ f t u0 hu0 sq hsq ac hac k_u0_0 nx hnx k_u0_5 sn hsn k_u0_1 bf hbf k_u0_3 qn hqn k_sn_0 sz hsz k_sn_1 qa hqa k_sq_0 rn hRqn rf hRbf ra hRqa esq hab) r12 (Cn := RX0) (T := TX0) (N := 6) rfl rfl mk_X0_remember w_581 w_583 w_9 w_584 ⟨Nat.le_of_ble_eq_true rfl, Nat.le_of_ble_eq_true rfl⟩ rfl (Nat.le_of_ble_eq_true rfl) ⟨Nat.le_of_ble_eq_true rfl, Nat.le_of_ble_eq_true rfl⟩ rfl dX0_add_10) h (fun f14 H locs p15 h => ?_)
    obtain ⟨tf14, ogf14, ⟨nx1_f14, kpu0_5f14, ipu0_5f14, rpu0_5f14⟩, ⟨ac1_f14, kpu0_0f14, ipu0_0f14, rpu0_0f14⟩, ⟨sza_f14, kpsq_1f14, ipsq_1f14, rpsq_1f14⟩, ⟨ra1_f14, kRqaf14, pRqaf14⟩, fxf14⟩ := p15
    have of14 : Fr [4, 12, 15, 18, 12001, 12006, 15002, 18002] τ f f14 := Fr.tr o ogf14 (by decide) (by decide)
    have k16 := atp.fk k_u0_1 ogf14 hu0 (by decide) (by decide)
    have k17 := atp.fk k_u0_3 ogf14 hu0 (by decide) (by decide)
    have k18 := atp.fr k_sn_0 ogf14 hsn (by decide)
    have k19 := atp.fr k_sn_1 ogf14 hsn (by decide)
    have k20 := atp.fk k_sq_0 ogf14 hsq (by decide) (by decide)
    have k21 := atp.fx hRqn fxf14 (nmc hab (nmc (ne_tg hqn hsq (by decide)) (nmc (ne_tg hqn hu0 (by decide)) nm0)))
    have k22 := atp.fr hRbf ogf14 hbf (by decide)
    have k23 := FX.tr hfx fxf14 (by simp)
    refine lv_aload_n hx hb dX0_add_13 rfl (lv_at hl 0 rfl) ?_
    refine t_getfd C h tf14 hu0 (by decide) wf_12 (v := .ref sn) k16 fl_X0_12 dX0_add_14 ?_
    refine t_getfd C h tf14 hsn (by decide) wf_15 (v := .ref qn) k18 fl_X0_33 dX0_add_17 ?_
    refine lv_aload_n hx hb dX0_add_20 rfl (lv_at hl 0 rfl) ?_
    refine t_getfd C h tf14 hu0 (by decide) wf_12 (v := .ref sn) k16 fl_X0_12 dX0_add_21 ?_
    refine t_getfd C h tf14 hsn (by decide) wf_15 (v := .int sz) k19 fl_X0_25 dX0_add_24 ?_
    refine lv_aload_n hx hb dX0_add_27 rfl (lv_at hl 1 rfl) ?_
    refine e_aastO C h tf14 of14 (g := 4) (ci := 7) (rr := (RX6, TX6, 4)) rfl rfl hqn (by decide) (by decide) wf_4 fw_4 (by decide) wf_1 k21 (ix_o (by omega)) (x := some u1) (fun z_ h_ => by cases h_; exact hu1) dX0_add_28 (fun R26 f24 erR26 H locs h tf24 of24 hq hn_ k25 => ?_) rfl
    have k27 := atp.tg k16 hq hu0 (by decide)
    have k28 := atp.tg k17 hq hu0 (by decide)
    have k29 := atp.tg k18 hq hsn (by decide)
    have k30 := atp.tg k19 hq hsn (by decide)
    have k31 := atp.tg k20 hq hsq (by decide)
    have k33 := atp.tg k22 hq hbf (by decide)
    have k34 := FX.up k23 hn_ (by simp)
    have k35 := atp.tg kpu0_5f14 hq hu0 (by decide)
    have k36 := atp.tg kpu0_0f14 hq hu0 (by decide)
    have k37 := atp.tg kpsq_1f14 hq hsq (by decide)
    have k38 := atp.tr kRqaf14 (hn_ qa hab.symm)
    refine lv_aload_n hx hb dX0_add_29 rfl (lv_at hl 0 rfl) ?_
    refine t_getfd C h tf24 hu0 (by decide) wf_12 (v := .ref sn) k27 fl_X0_12 dX0_add_30 ?_
    refine lv_dup hx hb dX0_add_33 rfl ?_
    refine t_getfd C h tf24 hsn (by decide) wf_15 (v := .int sz) k30 fl_X0_25 dX0_add_34 ?_
    refine lv_iconst (v := 1) hx hb dX0_add_37 (by decide) ?_
    refine i_addk hx hb dX0_add_38 hsz (k := 1) rfl (lo := 1) (hi := 9) (by decide) (fun z39 ez39 mz39 iz39 => ?_)
    refine t_put C h tf24 of24 hsn (by decide) (by decide) (by decide) wf_15 fw_15 (k := 1) rfl flw_X0_25 (Or.inr ⟨_, _, _, rfl, rfl⟩) (v := .int z39) rfl rfl ⟨_, rfl, (show iv z39 0 8 from by omega)⟩ dX0_add_39 (fun f40 H locs h tf40 of40 hq ha_ hn_ hk_ => ?_)
    have k41 := atp.tg k27 hq hu0 (by decide)
    have k42 := atp.tg k28 hq hu0 (by decide)
    have k43 := hk_ 0 _ (by decide) k29
    have k45 := atp.tg k31 hq hsq (by decide)
    have k46 := atp.tg k33 hq hbf (by decide)
    have k47 := FX.up k34 hn_ (by simp)
    have k48 := atp.tg k35 hq hu0 (by decide)
    have k49 := atp.tg k36 hq hu0 (by decide)
    have k50 := atp.tg k37 hq hsq (by decide)
    have k51 := atp.tg k38 hq hqa (by decide)
    have k52 := atp.tg k25 hq hqn (by decide)
    have k53 := ha_
    refine lv_aload_n hx hb dX0_add_42 rfl (lv_at hl 0 rfl) ?_
    refine t_getfd C h tf40 hu0 (by decide) wf_12 (v := .ref sn) k41 fl_X0_12 dX0_add_43 ?_
    refine t_getfd C h tf40 hsn (by decide) wf_15 (v := .int z39) k53 fl_X0_25 dX0_add_46 ?_
    refine lv_iconst (v := 1) hx hb dX0_add_49 (by decide) ?_
    refine i_subk hx hb dX0_add_50 iz39 (k := 1) rfl (lo := 0) (hi := 8) (by decide) (fun z54 ez54 mz54 iz54 => ?_)
    exact u_iret C h hr hQ (⟨iz54, tf40, of40, (by omega), ⟨nx1_f14, k48, ipu0_5f14, (by omega)⟩, ⟨ac1_f14, k49, ipu0_0f14, (by omega)⟩, ⟨sza_f14, k50, ipsq_1f14, (by omega)⟩, ⟨z39, k53, (show iv z39 0 8 from by omega), (by omega)⟩, ⟨ra1_f14, k51, pRqaf14⟩, ⟨R26, k52, (fun k => by
        rw [erR26]; by_cases q_ : k = sz.toInt.toNat
        · rw [va_up_at q_, if_pos q_]
        · rw [va_up_off q_, if_neg q_])⟩, k47⟩) (Nat.le_of_ble_eq_true rfl) (Nat.le_of_ble_eq_true rfl) dX0_add_51
  · have c9 : r2.toInt ≠ 0 := fun z_ => c5 (Int32.toInt_inj.mp z_)
    have i10 : iv r2 1 1 := iv_Nl c9 ir2 (by decide)
    have i11 := cnr2 c9
    exfalso; omega
abbrev rm_s_X0_replaceX : Room := { frames := 2, cells := 0, slots := 0, locals := 42 }
set_option maxRecDepth 100000 in
set_option maxHeartbeats 4000000 in
theorem s_X0_replaceX (l : Launch) (D : va_G) (G : Nat → Nat) (b0 : Nat) (τ : Nat → Nat) (f : hM) (t : TI G 9 τ f) (u0 : Nat) (hu0 : τ u0 = 12) (u1 : Int32) (hu1 : iv u1 (-2147483648) 2147483647) (u2 : Nat) (hu2 : τ u2 = 1) (sq : Nat) (hsq : τ sq = 18) (ac : Int32) (hac : iv ac 0 12) (k_u0_0 : atp f u0 (fd 0 (.int ac))) (nx : Int32) (hnx : iv nx 0 11) (k_u0_5 : atp f u0 (fd 5 (.int nx))) (sn : Nat) (hsn : τ sn = 15) (k_u0_1 : atp f u0 (fd 1 (.ref sn))) (bf : Nat) (hbf : τ bf = 17) (k_u0_3 : atp f u0 (fd 3 (.ref bf))) (qn : Nat) (hqn : τ qn = 4) (k_sn_0 : atp f sn (fd 0 (.ref qn))) (sz : Int32) (hsz : iv sz 0 8) (k_sn_1 : atp f sn (fd 1 (.int sz))) (qa : Nat) (hqa : τ qa = 4) (k_sq_0 : atp f sq (fd 0 (.ref qa))) (rn : Nat → Option Nat) (hRqn : atp f qn (eqr G 4 8 rn)) (rf : Nat → Option Nat) (hRbf : atp f bf (eqr G 3 12 rf)) (ra : Nat → Option Nat) (hRqa : atp f qa (eqr G 4 8 ra)) (esq : rf nx.toInt.toNat = some sq) (hab : qn ≠ qa)  (hr0 : 0 ≤ u1.toInt) (hr1 : u1.toInt < sz.toInt) : mV l yX0_replace cX0_replace 3 rm_s_X0_replaceX D G b0 f [.ref u0, .int u1, .ref u2] (fun f1 => TI G 9 τ f1 ∧ Fr [4, 12, 18, 12001, 12006, 18002] τ f f1 ∧ (∃ nx1 : Int32, atp f1 u0 (fd 5 (.int nx1)) ∧ iv nx1 0 11 ∧ nx1.toInt = (nx.toInt + 1) % 12) ∧ (∃ ac1 : Int32, atp f1 u0 (fd 0 (.int ac1)) ∧ iv ac1 0 12 ∧ ((ac.toInt = 12 → ac1.toInt = 12) ∧ (ac.toInt ≠ 12 → ac1.toInt = ac.toInt + 1))) ∧ (∃ sza : Int32, atp f1 sq (fd 1 (.int sza)) ∧ iv sza 0 8 ∧ sza.toInt = sz.toInt) ∧ (∃ ra1 : Nat → Option Nat, atp f1 qa (eqr G 4 8 ra1) ∧ (∀ k : Nat, k < 8 → ra1 k = rn k)) ∧ (∃ rn1 : Nat → Option Nat, atp f1 qn (eqr G 4 8 rn1) ∧ (∀ k : Nat, rn1 k = if k = u1.toInt.toNat then some u2 else rn k)) ∧ FX [qa, sq, u0, qn] f f1) := by
  refine met2 (own := RX0) (by decide) rfl (Nat.le_of_ble_eq_true rfl) ?_
  intro p e s m args below meth c ls Q hQ C hr hini hl h
  have hl : lv_has ls 3 [(0, .ref u0), (1, .int u1), (2, .ref u2)] := hl
  obtain ⟨hx, hb, hml, hown, hts, hE0, hlk⟩ := id C
  have o := Fr.rf [4, 12, 18, 12001, 12006, 18002] τ f
  have hfx := FX.rf [qa, sq, u0, qn] f
  refine lv_iload_n hx hb dX0_replace_0 rfl (lv_at hl 1 rfl) ?_
  refine lv_iconst (v := 0) hx hb dX0_replace_1 (by decide) ?_
  refine lv_aload_n hx hb dX0_replace_2 rfl (lv_at hl 0 rfl) ?_
  refine t_getfd C h t hu0 (by decide) wf_12 (v := .ref sn) k_u0_1 fl_X0_12 dX0_replace_3 ?_
  refine t_getfd C h t hsn (by decide) wf_15 (v := .int sz) k_sn_1 fl_X0_25 dX0_replace_6 ?_
  refine lv_iconst (v := 1) hx hb dX0_replace_9 (by decide) ?_
  refine i_subk hx hb dX0_replace_10 hsz (k := 1) rfl (lo := (-1)) (hi := 7) (by decide) (fun z1 ez1 mz1 iz1 => ?_)
  refine k_i (r_SN C h hl (host := "QuarterWalks") (As := [.int u1, .int 0, .int z1]) (rest := []) (s_X10_within l D G b0 τ f t u1 hu1 0 (iv_w (iv_k (x := 0) (k := 0) rfl) (by decide)) z1 (iv_w iz1 (by decide))) mk_X10_within (by decide) w_426 w_427 ⟨Nat.le_of_ble_eq_true rfl, Nat.le_of_ble_eq_true rfl⟩ rfl (Nat.le_of_ble_eq_true rfl) ⟨Nat.le_of_ble_eq_true rfl, Nat.le_of_ble_eq_true rfl⟩ rfl dX0_replace_11) h (fun r2 f3 H locs p4 h => ?_)
  have n5 : (0 : Int32).toInt = 0 := rfl
  obtain ⟨ir2, tf3, ogf3, cnr2, czr2⟩ := p4
  have egf3 := Fr.nil2 ogf3
  subst egf3
  refine lv_if_eq (tgt := 31) hx hb dX0_replace_14 (by decide) (fun c6 => ?_) (fun c6 => ?_)
  · have c7 : r2.toInt = 0 := congrArg Int32.toInt c6
    have i8 : iv r2 0 0 := iv_Q c7 ir2 (iv_k (x := 0) (k := 0) rfl) (by decide)
    have i9 := czr2 c7
    exfalso; omega
  · have c10 : r2.toInt ≠ 0 := fun z_ => c6 (Int32.toInt_inj.mp z_)
    have i11 : iv r2 1 1 := iv_Nl c10 ir2 (by decide)
    obtain ⟨i12, i13⟩ := cnr2 c10
    have i14 : iv u1 0 7 := ⟨by omega, by omega⟩
    refine lv_aload_n hx hb dX0_replace_17 rfl (lv_at hl 0 rfl) ?_
    obtain ⟨_, r15⟩ := t_rec t hu0 (by decide) wf_12
    refine k_v (r_V C h hl (As := []) (rest := []) (s_X0_rememberX l D G b0 τ f t u0 hu0 sq hsq ac hac k_u0_0 nx hnx k_u0_5 sn hsn k_u0_1 bf hbf k_u0_3 qn hqn k_sn_0 sz hsz k_sn_1 qa hqa k_sq_0 rn hRqn rf hRbf ra hRqa esq hab) r15 (Cn := RX0) (T := TX0) (N := 6) rfl rfl mk_X0_remember w_581 w_583 w_9 w_584 ⟨Nat.le_of_ble_eq_true rfl, Nat.le_of_ble_eq_true rfl⟩ rfl (Nat.le_of_ble_eq_true rfl) ⟨Nat.le_of_ble_eq_true rfl, Nat.le_of_ble_eq_true rfl⟩ rfl dX0_replace_18) h (fun f17 H locs p18 h => ?_)
    obtain ⟨tf17, ogf17, ⟨nx1_f17, kpu0_5f17, ipu0_5f17, rpu0_5f17⟩, ⟨ac1_f17, kpu0_0f17, ipu0_0f17, rpu0_0f17⟩, ⟨sza_f17, kpsq_1f17, ipsq_1f17, rpsq_1f17⟩, ⟨ra1_f17, kRqaf17, pRqaf17⟩, fxf17⟩ := p18
    have of17 : Fr [4, 12, 18, 12001, 12006, 18002] τ f f17 := Fr.tr o ogf17 (by decide) (by decide)
    have k19 := atp.fk k_u0_1 ogf17 hu0 (by decide) (by decide)
    have k20 := atp.fk k_u0_3 ogf17 hu0 (by decide) (by decide)
    have k21 := atp.fr k_sn_0 ogf17 hsn (by decide)
    have k22 := atp.fr k_sn_1 ogf17 hsn (by decide)
    have k23 := atp.fk k_sq_0 ogf17 hsq (by decide) (by decide)
    have k24 := atp.fx hRqn fxf17 (nmc hab (nmc (ne_tg hqn hsq (by decide)) (nmc (ne_tg hqn hu0 (by decide)) nm0)))
    have k25 := atp.fr hRbf ogf17 hbf (by decide)
    have k26 := FX.tr hfx fxf17 (by simp)
    refine lv_aload_n hx hb dX0_replace_21 rfl (lv_at hl 0 rfl) ?_
    refine t_getfd C h tf17 hu0 (by decide) wf_12 (v := .ref sn) k19 fl_X0_12 dX0_replace_22 ?_
    refine t_getfd C h tf17 hsn (by decide) wf_15 (v := .ref qn) k21 fl_X0_33 dX0_replace_25 ?_
    refine lv_iload_n hx hb dX0_replace_28 rfl (lv_at hl 1 rfl) ?_
    refine lv_aload_n hx hb dX0_replace_29 rfl (lv_at hl 2 rfl) ?_
    refine e_aastO C h tf17 of17 (g := 4) (ci := 7) (rr := (RX6, TX6, 4)) rfl rfl hqn (by decide) (by decide) wf_4 fw_4 (by decide) wf_1 k24 (iv_in i14 (by decide)) (x := some u2) (fun z_ h_ => by cases h_; exact hu2) dX0_replace_30 (fun R29 f27 erR29 H locs h tf27 of27 hq hn_ k28 => ?_) rfl
    have k30 := atp.tg k19 hq hu0 (by decide)
    have k31 := atp.tg k20 hq hu0 (by decide)
    have k32 := atp.tg k21 hq hsn (by decide)
    have k33 := atp.tg k22 hq hsn (by decide)
    have k34 := atp.tg k23 hq hsq (by decide)
    have k36 := atp.tg k25 hq hbf (by decide)
    have k37 := FX.up k26 hn_ (by simp)
    have k38 := atp.tg kpu0_5f17 hq hu0 (by decide)
    have k39 := atp.tg kpu0_0f17 hq hu0 (by decide)
    have k40 := atp.tg kpsq_1f17 hq hsq (by decide)
    have k41 := atp.tr kRqaf17 (hn_ qa hab.symm)
    exact u_vret C h hr hQ (⟨tf27, of27, ⟨nx1_f17, k38, ipu0_5f17, (by omega)⟩, ⟨ac1_f17, k39, ipu0_0f17, (by omega)⟩, ⟨sza_f17, k40, ipsq_1f17, (by omega)⟩, ⟨ra1_f17, k41, pRqaf17⟩, ⟨R29, k28, (fun k => by
        rw [erR29]; by_cases q_ : k = u1.toInt.toNat
        · rw [va_up_at q_, if_pos q_]
        · rw [va_up_off q_, if_neg q_])⟩, k37⟩) (Nat.le_of_ble_eq_true rfl) (Nat.le_of_ble_eq_true rfl) dX0_replace_31
abbrev rm_s_X0_removeX : Room := { frames := 2, cells := 0, slots := 0, locals := 42 }
set_option maxRecDepth 100000 in
set_option maxHeartbeats 4000000 in
theorem s_X0_removeX (l : Launch) (D : va_G) (G : Nat → Nat) (b0 : Nat) (τ : Nat → Nat) (f : hM) (t : TI G 9 τ f) (u0 : Nat) (hu0 : τ u0 = 12) (u1 : Int32) (hu1 : iv u1 (-2147483648) 2147483647) (sq : Nat) (hsq : τ sq = 18) (ac : Int32) (hac : iv ac 0 12) (k_u0_0 : atp f u0 (fd 0 (.int ac))) (nx : Int32) (hnx : iv nx 0 11) (k_u0_5 : atp f u0 (fd 5 (.int nx))) (sn : Nat) (hsn : τ sn = 15) (k_u0_1 : atp f u0 (fd 1 (.ref sn))) (bf : Nat) (hbf : τ bf = 17) (k_u0_3 : atp f u0 (fd 3 (.ref bf))) (qn : Nat) (hqn : τ qn = 4) (k_sn_0 : atp f sn (fd 0 (.ref qn))) (sz : Int32) (hsz : iv sz 0 8) (k_sn_1 : atp f sn (fd 1 (.int sz))) (qa : Nat) (hqa : τ qa = 4) (k_sq_0 : atp f sq (fd 0 (.ref qa))) (rn : Nat → Option Nat) (hRqn : atp f qn (eqr G 4 8 rn)) (rf : Nat → Option Nat) (hRbf : atp f bf (eqr G 3 12 rf)) (ra : Nat → Option Nat) (hRqa : atp f qa (eqr G 4 8 ra)) (esq : rf nx.toInt.toNat = some sq) (hab : qn ≠ qa)  (hr0 : 0 ≤ u1.toInt) (hr1 : u1.toInt < sz.toInt) : mI l yX0_remove cX0_remove 3 (.int) rm_s_X0_removeX D G b0 f [.ref u0, .int u1] (fun r f1 => iv r (-1) 7 ∧ TI G 9 τ f1 ∧ Fr [4, 12, 15, 18, 12001, 12006, 15002, 18002] τ f f1 ∧ (r.toInt = sz.toInt - 1) ∧ (∃ nx1 : Int32, atp f1 u0 (fd 5 (.int nx1)) ∧ iv nx1 0 11 ∧ nx1.toInt = (nx.toInt + 1) % 12) ∧ (∃ ac1 : Int32, atp f1 u0 (fd 0 (.int ac1)) ∧ iv ac1 0 12 ∧ ((ac.toInt = 12 → ac1.toInt = 12) ∧ (ac.toInt ≠ 12 → ac1.toInt = ac.toInt + 1))) ∧ (∃ sza : Int32, atp f1 sq (fd 1 (.int sza)) ∧ iv sza 0 8 ∧ sza.toInt = sz.toInt) ∧ (∃ szn : Int32, atp f1 sn (fd 1 (.int szn)) ∧ iv szn 0 8 ∧ szn.toInt = sz.toInt - 1) ∧ (∃ ra1 : Nat → Option Nat, atp f1 qa (eqr G 4 8 ra1) ∧ (∀ k : Nat, k < 8 → ra1 k = rn k)) ∧ (∃ rn1 : Nat → Option Nat, atp f1 qn (eqr G 4 8 rn1) ∧ (∀ k : Nat, rn1 k = if (k : Int) = sz.toInt - 1 then none else if u1.toInt ≤ (k : Int) ∧ (k : Int) < sz.toInt - 1 then rn (k + 1) else rn k)) ∧ FX [qa, sq, u0, qn, sn] f f1) := by
  refine met2 (own := RX0) (by decide) rfl (Nat.le_of_ble_eq_true rfl) ?_
  intro p e s m args below meth c ls Q hQ C hr hini hl h
  have hl : lv_has ls 3 [(0, .ref u0), (1, .int u1)] := hl
  obtain ⟨hx, hb, hml, hown, hts, hE0, hlk⟩ := id C
  have o := Fr.rf [4, 12, 15, 18, 12001, 12006, 15002, 18002] τ f
  have hfx := FX.rf [qa, sq, u0, qn, sn] f
  have L25 : ∀ (n25 : Nat) (ls : Array Slot) (f_25 : hM) (H : Heap) (locs : List Loc) (v25_2 : Int32) (g25_qn_R : Nat → Option Nat) (g25_u0_5 : Int32) (g25_u0_0 : Int32) (g25_sq_1 : Int32) (g25_qa_R : Nat → Option Nat), 7 - v25_2.toInt < (n25 : Int) → lv_has ls 3 [(0, .ref u0), (2, .int v25_2)] → hw D b0 s.heap f_25 H locs → TI G 9 τ f_25 → Fr [4, 12, 15, 18, 12001, 12006, 15002, 18002] τ f f_25 → iv v25_2 0 7 → iv g25_u0_5 0 11 → iv g25_u0_0 0 12 → iv g25_sq_1 0 8 → atp f_25 u0 (fd 1 (.ref sn)) → atp f_25 u0 (fd 3 (.ref bf)) → atp f_25 sn (fd 0 (.ref qn)) → atp f_25 sn (fd 1 (.int sz)) → atp f_25 sq (fd 0 (.ref qa)) → atp f_25 qn (eqr G 4 8 g25_qn_R) → atp f_25 bf (eqr G 3 12 rf) → FX [qa, sq, u0, qn, sn] f f_25 → atp f_25 u0 (fd 5 (.int g25_u0_5)) → atp f_25 u0 (fd 0 (.int g25_u0_0)) → atp f_25 sq (fd 1 (.int g25_sq_1)) → atp f_25 qa (eqr G 4 8 g25_qa_R) → u1.toInt ≤ v25_2.toInt → v25_2.toInt < sz.toInt → g25_u0_5.toInt = (nx.toInt + 1) % 12 → ((ac.toInt = 12 → g25_u0_0.toInt = 12) ∧ (ac.toInt ≠ 12 → g25_u0_0.toInt = ac.toInt + 1)) → g25_sq_1.toInt = sz.toInt → (∀ k : Nat, k < 8 → g25_qa_R k = rn k) → (∀ k : Nat, g25_qn_R k = if u1.toInt ≤ (k : Int) ∧ (k : Int) < v25_2.toInt then rn (k + 1) else rn k) → W p l e rm_s_X0_removeX s m args below meth c H locs 0 0 Q (F0 m 25 ls []) := by
    intro n25
    induction n25 with
    | zero => intro ls f_25 H locs v25_2 g25_qn_R g25_u0_5 g25_u0_0 g25_sq_1 g25_qa_R hm25 hl h t_25 o_25 iv25_2 ig25_u0_5 ig25_u0_0 ig25_sq_1 k25_u0_1 k25_u0_3 k25_sn_0 k25_sn_1 k25_sq_0 k25_qn_R k25_bf_R k25_fx_FX k25_u0_5 k25_u0_0 k25_sq_1 k25_qa_R hv25_0 hv25_1 hv25_2 hv25_3 hv25_4 hv25_5 hv25_6; exact absurd hm25 (by omega)
    | succ n25 ih25 =>
      intro ls f_25 H locs v25_2 g25_qn_R g25_u0_5 g25_u0_0 g25_sq_1 g25_qa_R hm25 hl h t_25 o_25 iv25_2 ig25_u0_5 ig25_u0_0 ig25_sq_1 k25_u0_1 k25_u0_3 k25_sn_0 k25_sn_1 k25_sq_0 k25_qn_R k25_bf_R k25_fx_FX k25_u0_5 k25_u0_0 k25_sq_1 k25_qa_R hv25_0 hv25_1 hv25_2 hv25_3 hv25_4 hv25_5 hv25_6
      refine lv_iload_n hx hb dX0_remove_25 rfl (lv_at hl 1 rfl) ?_
      refine lv_iconst (v := 1) hx hb dX0_remove_26 (by decide) ?_
      refine i_addk hx hb dX0_remove_27 iv25_2 (k := 1) rfl (lo := 1) (hi := 8) (by decide) (fun z1 ez1 mz1 iz1 => ?_)
      refine lv_aload_n hx hb dX0_remove_28 rfl (lv_at hl 0 rfl) ?_
      refine t_getfd C h t_25 hu0 (by decide) wf_12 (v := .ref sn) k25_u0_1 fl_X0_12 dX0_remove_29 ?_
      refine t_getfd C h t_25 hsn (by decide) wf_15 (v := .int sz) k25_sn_1 fl_X0_25 dX0_remove_32 ?_
      refine lv_icmp_ge (tgt := 64) hx hb dX0_remove_35 (by decide) (fun c2 => ?_) (fun c2 => ?_)
      · have c3 : sz.toInt ≤ z1.toInt := Int32.le_iff_toInt_le.mp c2
        refine lv_aload_n hx hb dX0_remove_64 rfl (lv_at hl 0 rfl) ?_
        refine t_getfd C h t_25 hu0 (by decide) wf_12 (v := .ref sn) k25_u0_1 fl_X0_12 dX0_remove_65 ?_
        refine lv_dup hx hb dX0_remove_68 rfl ?_
        refine t_getfd C h t_25 hsn (by decide) wf_15 (v := .int sz) k25_sn_1 fl_X0_25 dX0_remove_69 ?_
        refine lv_iconst (v := 1) hx hb dX0_remove_72 (by decide) ?_
        refine i_subk hx hb dX0_remove_73 hsz (k := 1) rfl (lo := (-1)) (hi := 7) (by decide) (fun z7 ez7 mz7 iz7 => ?_)
        refine t_put C h t_25 o_25 hsn (by decide) (by decide) (by decide) wf_15 fw_15 (k := 1) rfl flw_X0_25 (Or.inr ⟨_, _, _, rfl, rfl⟩) (v := .int z7) rfl rfl ⟨_, rfl, (show iv z7 0 8 from by omega)⟩ dX0_remove_74 (fun f8 H locs h tf8 of8 hq ha_ hn_ hk_ => ?_)
        have k9 := atp.tg k25_u0_1 hq hu0 (by decide)
        have k10 := atp.tg k25_u0_3 hq hu0 (by decide)
        have k11 := hk_ 0 _ (by decide) k25_sn_0
        have k13 := atp.tg k25_sq_0 hq hsq (by decide)
        have k14 := atp.tg k25_qn_R hq hqn (by decide)
        have k15 := atp.tg k25_bf_R hq hbf (by decide)
        have k16 := FX.up k25_fx_FX hn_ (by simp)
        have k17 := atp.tg k25_u0_5 hq hu0 (by decide)
        have k18 := atp.tg k25_u0_0 hq hu0 (by decide)
        have k19 := atp.tg k25_sq_1 hq hsq (by decide)
        have k20 := atp.tg k25_qa_R hq hqa (by decide)
        have k21 := ha_
        refine lv_aload_n hx hb dX0_remove_77 rfl (lv_at hl 0 rfl) ?_
        refine t_getfd C h tf8 hu0 (by decide) wf_12 (v := .ref sn) k9 fl_X0_12 dX0_remove_78 ?_
        refine t_getfd C h tf8 hsn (by decide) wf_15 (v := .ref qn) k11 fl_X0_33 dX0_remove_81 ?_
        refine lv_aload_n hx hb dX0_remove_84 rfl (lv_at hl 0 rfl) ?_
        refine t_getfd C h tf8 hu0 (by decide) wf_12 (v := .ref sn) k9 fl_X0_12 dX0_remove_85 ?_
        refine t_getfd C h tf8 hsn (by decide) wf_15 (v := .int z7) k21 fl_X0_25 dX0_remove_88 ?_
        refine lv_null hx hb dX0_remove_91 ?_
        refine e_aastO C h tf8 of8 (g := 4) (ci := 7) (rr := (RX6, TX6, 4)) rfl rfl hqn (by decide) (by decide) wf_4 fw_4 (by decide) wf_1 k14 (ix_o (by omega)) (x := none) (fun z_ h_ => by cases h_) dX0_remove_92 (fun R24 f22 erR24 H locs h tf22 of22 hq hn_ k23 => ?_) rfl
        have k25 := atp.tg k9 hq hu0 (by decide)
        have k26 := atp.tg k10 hq hu0 (by decide)
        have k27 := atp.tg k11 hq hsn (by decide)
        have k28 := atp.tg k13 hq hsq (by decide)
        have k30 := atp.tg k15 hq hbf (by decide)
        have k31 := FX.up k16 hn_ (by simp)
        have k32 := atp.tg k17 hq hu0 (by decide)
        have k33 := atp.tg k18 hq hu0 (by decide)
        have k34 := atp.tg k19 hq hsq (by decide)
        have k35 := atp.tr k20 (hn_ qa hab.symm)
        have k36 := atp.tg k21 hq hsn (by decide)
        refine lv_aload_n hx hb dX0_remove_93 rfl (lv_at hl 0 rfl) ?_
        refine t_getfd C h tf22 hu0 (by decide) wf_12 (v := .ref sn) k25 fl_X0_12 dX0_remove_94 ?_
        refine t_getfd C h tf22 hsn (by decide) wf_15 (v := .int z7) k36 fl_X0_25 dX0_remove_97 ?_
        exact u_iret C h hr hQ (⟨iz7, tf22, of22, (by omega), ⟨g25_u0_5, k32, ig25_u0_5, (by omega)⟩, ⟨g25_u0_0, k33, ig25_u0_0, (by omega)⟩, ⟨g25_sq_1, k34, ig25_sq_1, (by omega)⟩, ⟨z7, k36, (show iv z7 0 8 from by omega), (by omega)⟩, ⟨g25_qa_R, k35, hv25_5⟩, ⟨R24, k23, (fun k => by
            rw [erR24]; by_cases q_ : k = z7.toInt.toNat
            · rw [va_up_at q_]; (repeat' split) <;> first | rfl | (exfalso; omega) | (exact congrArg _ (by omega))
            · rw [va_up_off q_, hv25_6 k]; (repeat' split) <;> first | rfl | (exfalso; omega) | (exact congrArg _ (by omega)))⟩, k31⟩) (Nat.le_of_ble_eq_true rfl) (Nat.le_of_ble_eq_true rfl) dX0_remove_100
      · have c4 : z1.toInt < sz.toInt := Int32.lt_iff_toInt_lt.mp (iv_nle c2)
        have i5 : iv z1 1 7 := iv_Ll c4 iz1 hsz (by decide)
        have i6 : iv sz 2 8 := iv_Lr c4 iz1 hsz (by decide)
        refine lv_aload_n hx hb dX0_remove_38 rfl (lv_at hl 0 rfl) ?_
        refine t_getfd C h t_25 hu0 (by decide) wf_12 (v := .ref sn) k25_u0_1 fl_X0_12 dX0_remove_39 ?_
        refine t_getfd C h t_25 hsn (by decide) wf_15 (v := .ref qn) k25_sn_0 fl_X0_33 dX0_remove_42 ?_
        refine lv_iload_n hx hb dX0_remove_45 rfl (lv_at hl 1 rfl) ?_
        refine lv_aload_n hx hb dX0_remove_46 rfl (lv_at hl 0 rfl) ?_
        refine t_getfd C h t_25 hu0 (by decide) wf_12 (v := .ref sn) k25_u0_1 fl_X0_12 dX0_remove_47 ?_
        refine t_getfd C h t_25 hsn (by decide) wf_15 (v := .ref qn) k25_sn_0 fl_X0_33 dX0_remove_50 ?_
        refine lv_iload_n hx hb dX0_remove_53 rfl (lv_at hl 1 rfl) ?_
        refine lv_iconst (v := 1) hx hb dX0_remove_54 (by decide) ?_
        refine i_addk hx hb dX0_remove_55 iv25_2 (k := 1) rfl (lo := 1) (hi := 8) (by decide) (fun z37 ez37 mz37 iz37 => ?_)
        refine e_aaldO C h t_25 (g := 4) rfl hqn (by decide) wf_4 k25_qn_R (ix_o (by omega)) dX0_remove_56 (fun q38 eq38 tq38 => ?_)
        refine e_aastO C h t_25 o_25 (g := 4) (ci := 7) (rr := (RX6, TX6, 4)) rfl rfl hqn (by decide) (by decide) wf_4 fw_4 (by decide) wf_1 k25_qn_R (iv_in iv25_2 (by decide)) (x := q38) tq38 dX0_remove_57 (fun R41 f39 erR41 H locs h tf39 of39 hq hn_ k40 => ?_) rfl
        have k42 := atp.tg k25_u0_1 hq hu0 (by decide)
        have k43 := atp.tg k25_u0_3 hq hu0 (by decide)
        have k44 := atp.tg k25_sn_0 hq hsn (by decide)
        have k45 := atp.tg k25_sn_1 hq hsn (by decide)
        have k46 := atp.tg k25_sq_0 hq hsq (by decide)
        have k48 := atp.tg k25_bf_R hq hbf (by decide)
        have k49 := FX.up k25_fx_FX hn_ (by simp)
        have k50 := atp.tg k25_u0_5 hq hu0 (by decide)
        have k51 := atp.tg k25_u0_0 hq hu0 (by decide)
        have k52 := atp.tg k25_sq_1 hq hsq (by decide)
        have k53 := atp.tr k25_qa_R (hn_ qa hab.symm)
        refine i_inc hx hb dX0_remove_58 hl (k := 1) rfl iv25_2 rfl (lo := 1) (hi := 8) (by decide) (by decide) (lv' := fun v => [(2, .int v), (0, .ref u0)]) (fun _ => rfl) (fun z54 ls ez54 mz54 iz54 hl => ?_)
        refine lv_goto (tgt := 25) hx hb dX0_remove_61 (by decide) ?_
        exact ih25 ls f39 H locs z54 R41 g25_u0_5 g25_u0_0 g25_sq_1 g25_qa_R (show 7 - z54.toInt < _ by omega) (lv_cons hl 1 rfl (lv_cons hl 0 rfl (lv_nil hl))) h tf39 of39 (show iv z54 0 7 from by omega) ig25_u0_5 ig25_u0_0 ig25_sq_1 k42 k43 k44 k45 k46 k40 k48 k49 k50 k51 k52 k53 (show u1.toInt ≤ z54.toInt by omega) (show z54.toInt < sz.toInt by omega) (show g25_u0_5.toInt = (nx.toInt + 1) % 12 by omega) (show ((ac.toInt = 12 → g25_u0_0.toInt = 12) ∧ (ac.toInt ≠ 12 → g25_u0_0.toInt = ac.toInt + 1)) by omega) (show g25_sq_1.toInt = sz.toInt by omega) (show ∀ k : Nat, k < 8 → g25_qa_R k = rn k from hv25_5) (show ∀ k : Nat, R41 k = if u1.toInt ≤ (k : Int) ∧ (k : Int) < z54.toInt then rn (k + 1) else rn k from (by
            intro k; rw [erR41]; by_cases q_ : k = v25_2.toInt.toNat
            · rw [va_up_at q_, eq38, hv25_6 _]; (repeat' split) <;> first | rfl | (exfalso; omega) | (exact congrArg _ (by omega))
            · rw [va_up_off q_, hv25_6 k]; (repeat' split) <;> first | rfl | (exfalso; omega) | (exact congrArg _ (by omega))))
  refine lv_iload_n hx hb dX0_remove_0 rfl (lv_at hl 1 rfl) ?_
  refine lv_iconst (v := 0) hx hb dX0_remove_1 (by decide) ?_
  refine lv_aload_n hx hb dX0_remove_2 rfl (lv_at hl 0 rfl) ?_
  refine t_getfd C h t hu0 (by decide) wf_12 (v := .ref sn) k_u0_1 fl_X0_12 dX0_remove_3 ?_
  refine t_getfd C h t hsn (by decide) wf_15 (v := .int sz) k_sn_1 fl_X0_25 dX0_remove_6 ?_
  refine lv_iconst (v := 1) hx hb dX0_remove_9 (by decide) ?_
  refine i_subk hx hb dX0_remove_10 hsz (k := 1) rfl (lo := (-1)) (hi := 7) (by decide) (fun z55 ez55 mz55 iz55 => ?_)
  refine k_i (r_SN C h hl (host := "QuarterWalks") (As := [.int u1, .int 0, .int z55]) (rest := []) (s_X10_within l D G b0 τ f t u1 hu1 0 (iv_w (iv_k (x := 0) (k := 0) rfl) (by decide)) z55 (iv_w iz55 (by decide))) mk_X10_within (by decide) w_426 w_427 ⟨Nat.le_of_ble_eq_true rfl, Nat.le_of_ble_eq_true rfl⟩ rfl (Nat.le_of_ble_eq_true rfl) ⟨Nat.le_of_ble_eq_true rfl, Nat.le_of_ble_eq_true rfl⟩ rfl dX0_remove_11) h (fun r56 f57 H locs p58 h => ?_)
  have n59 : (0 : Int32).toInt = 0 := rfl
  obtain ⟨ir56, tf57, ogf57, cnr56, czr56⟩ := p58
  have egf57 := Fr.nil2 ogf57
  subst egf57
  refine lv_if_ne (tgt := 19) hx hb dX0_remove_14 (by decide) (fun c60 => ?_) (fun c60 => ?_)
  · have c61 : r56.toInt ≠ 0 := fun z_ => c60 (Int32.toInt_inj.mp z_)
    have i62 : iv r56 1 1 := iv_Nl c61 ir56 (by decide)
    obtain ⟨i63, i64⟩ := cnr56 c61
    have i65 : iv u1 0 7 := ⟨by omega, by omega⟩
    refine lv_aload_n hx hb dX0_remove_19 rfl (lv_at hl 0 rfl) ?_
    obtain ⟨_, r69⟩ := t_rec t hu0 (by decide) wf_12
    refine k_v (r_V C h hl (As := []) (rest := []) (s_X0_rememberX l D G b0 τ f t u0 hu0 sq hsq ac hac k_u0_0 nx hnx k_u0_5 sn hsn k_u0_1 bf hbf k_u0_3 qn hqn k_sn_0 sz hsz k_sn_1 qa hqa k_sq_0 rn hRqn rf hRbf ra hRqa esq hab) r69 (Cn := RX0) (T := TX0) (N := 6) rfl rfl mk_X0_remember w_581 w_583 w_9 w_584 ⟨Nat.le_of_ble_eq_true rfl, Nat.le_of_ble_eq_true rfl⟩ rfl (Nat.le_of_ble_eq_true rfl) ⟨Nat.le_of_ble_eq_true rfl, Nat.le_of_ble_eq_true rfl⟩ rfl dX0_remove_20) h (fun f71 H locs p72 h => ?_)
    obtain ⟨tf71, ogf71, ⟨nx1_f71, kpu0_5f71, ipu0_5f71, rpu0_5f71⟩, ⟨ac1_f71, kpu0_0f71, ipu0_0f71, rpu0_0f71⟩, ⟨sza_f71, kpsq_1f71, ipsq_1f71, rpsq_1f71⟩, ⟨ra1_f71, kRqaf71, pRqaf71⟩, fxf71⟩ := p72
    have of71 : Fr [4, 12, 15, 18, 12001, 12006, 15002, 18002] τ f f71 := Fr.tr o ogf71 (by decide) (by decide)
    have k73 := atp.fk k_u0_1 ogf71 hu0 (by decide) (by decide)
    have k74 := atp.fk k_u0_3 ogf71 hu0 (by decide) (by decide)
    have k75 := atp.fr k_sn_0 ogf71 hsn (by decide)
    have k76 := atp.fr k_sn_1 ogf71 hsn (by decide)
    have k77 := atp.fk k_sq_0 ogf71 hsq (by decide) (by decide)
    have k78 := atp.fx hRqn fxf71 (nmc hab (nmc (ne_tg hqn hsq (by decide)) (nmc (ne_tg hqn hu0 (by decide)) nm0)))
    have k79 := atp.fr hRbf ogf71 hbf (by decide)
    have k80 := FX.tr hfx fxf71 (by simp)
    refine lv_iload_n hx hb dX0_remove_23 rfl (lv_at hl 1 rfl) ?_
    refine lv_istore_n (lv' := [(2, .int u1), (0, .ref u0), (1, .int u1)]) hx hb dX0_remove_24 rfl hl (by decide) rfl (fun ls hl => ?_)
    exact L25 8 ls f71 H locs u1 rn nx1_f71 ac1_f71 sza_f71 ra1_f71 (show 7 - u1.toInt < _ by omega) (lv_cons hl 1 rfl (lv_cons hl 0 rfl (lv_nil hl))) h tf71 of71 i65 ipu0_5f71 ipu0_0f71 ipsq_1f71 k73 k74 k75 k76 k77 k78 k79 k80 kpu0_5f71 kpu0_0f71 kpsq_1f71 kRqaf71 (show u1.toInt ≤ u1.toInt by omega) (show u1.toInt < sz.toInt by omega) (show nx1_f71.toInt = (nx.toInt + 1) % 12 by omega) (show ((ac.toInt = 12 → ac1_f71.toInt = 12) ∧ (ac.toInt ≠ 12 → ac1_f71.toInt = ac.toInt + 1)) by omega) (show sza_f71.toInt = sz.toInt by omega) (show ∀ k : Nat, k < 8 → ra1_f71 k = rn k from pRqaf71) (show ∀ k : Nat, rn k = if u1.toInt ≤ (k : Int) ∧ (k : Int) < u1.toInt then rn (k + 1) else rn k from (by
        intro k; (repeat' split) <;> first | rfl | (exfalso; omega) | (exact congrArg _ (by omega))))
  · have c66 : r56.toInt = 0 := congrArg Int32.toInt c60
    have i67 : iv r56 0 0 := iv_Q c66 ir56 (iv_k (x := 0) (k := 0) rfl) (by decide)
    have i68 := czr56 c66
    exfalso; omega
abbrev rm_s_X0_takeBackX : Room := { frames := 1, cells := 0, slots := 0, locals := 22 }
set_option maxRecDepth 100000 in
set_option maxHeartbeats 4000000 in
theorem s_X0_takeBackX (l : Launch) (D : va_G) (G : Nat → Nat) (b0 : Nat) (τ : Nat → Nat) (f : hM) (t : TI G 9 τ f) (u0 : Nat) (hu0 : τ u0 = 12) (sq : Nat) (hsq : τ sq = 18) (ac : Int32) (hac : iv ac 0 12) (k_u0_0 : atp f u0 (fd 0 (.int ac))) (nx : Int32) (hnx : iv nx 0 11) (k_u0_5 : atp f u0 (fd 5 (.int nx))) (sn : Nat) (hsn : τ sn = 15) (k_u0_1 : atp f u0 (fd 1 (.ref sn))) (bf : Nat) (hbf : τ bf = 17) (k_u0_3 : atp f u0 (fd 3 (.ref bf))) (qn : Nat) (hqn : τ qn = 4) (k_sn_0 : atp f sn (fd 0 (.ref qn))) (sz : Int32) (hsz : iv sz 0 8) (k_sn_1 : atp f sn (fd 1 (.int sz))) (qa : Nat) (hqa : τ qa = 4) (k_sq_0 : atp f sq (fd 0 (.ref qa))) (sa : Int32) (hsa : iv sa 0 8) (k_sq_1 : atp f sq (fd 1 (.int sa))) (rn : Nat → Option Nat) (hRqn : atp f qn (eqr G 4 8 rn)) (rf : Nat → Option Nat) (hRbf : atp f bf (eqr G 3 12 rf)) (ra : Nat → Option Nat) (hRqa : atp f qa (eqr G 4 8 ra)) (esq : rf ((nx.toInt + 11) % 12).toNat = some sq) (hab : qa ≠ qn)  : mI l yX0_takeBack cX0_takeBack 1 (.int) rm_s_X0_takeBackX D G b0 f [.ref u0] (fun r f1 => iv r (-1) 11 ∧ TI G 9 τ f1 ∧ Fr [4, 12, 15, 12001, 12006, 15002] τ f f1 ∧ ((ac.toInt = 0 → r.toInt = -1) ∧ (ac.toInt ≠ 0 → r.toInt = ac.toInt - 1)) ∧ (∃ nx1 : Int32, atp f1 u0 (fd 5 (.int nx1)) ∧ iv nx1 0 11 ∧ (ac.toInt = 0 → nx1.toInt = nx.toInt) ∧ (ac.toInt ≠ 0 → nx1.toInt = (nx.toInt + 11) % 12)) ∧ (∃ ac1 : Int32, atp f1 u0 (fd 0 (.int ac1)) ∧ iv ac1 0 12 ∧ (ac.toInt = 0 → ac1.toInt = 0) ∧ (ac.toInt ≠ 0 → ac1.toInt = ac.toInt - 1)) ∧ (∃ szn : Int32, atp f1 sn (fd 1 (.int szn)) ∧ iv szn 0 8 ∧ (ac.toInt = 0 → szn.toInt = sz.toInt) ∧ (ac.toInt ≠ 0 → szn.toInt = sa.toInt)) ∧ (∃ rn1 : Nat → Option Nat, atp f1 qn (eqr G 4 8 rn1) ∧ (∀ k : Nat, k < 8 → rn1 k = if ac.toInt = 0 then rn k else ra k)) ∧ FX [qn, sn, u0] f f1) := by
  refine met2 (own := RX0) (by decide) rfl (Nat.le_of_ble_eq_true rfl) ?_
  intro p e s m args below meth c ls Q hQ C hr hini hl h
  have hl : lv_has ls 1 [(0, .ref u0)] := hl
  obtain ⟨hx, hb, hml, hown, hts, hE0, hlk⟩ := id C
  have o := Fr.rf [4, 12, 15, 12001, 12006, 15002] τ f
  have hfx := FX.rf [qn, sn, u0] f
  refine lv_aload_n hx hb dX0_takeBack_0 rfl (lv_at hl 0 rfl) ?_
  refine t_getfd C h t hu0 (by decide) wf_12 (v := .int ac) k_u0_0 fl_X0_51 dX0_takeBack_1 ?_
  refine lv_if_ne (tgt := 9) hx hb dX0_takeBack_4 (by decide) (fun c1 => ?_) (fun c1 => ?_)
  · have c2 : ac.toInt ≠ 0 := fun z_ => c1 (Int32.toInt_inj.mp z_)
    have i3 : iv ac 1 12 := iv_Nl c2 hac (by decide)
    refine lv_aload_n hx hb dX0_takeBack_9 rfl (lv_at hl 0 rfl) ?_
    refine lv_aload_n hx hb dX0_takeBack_10 rfl (lv_at hl 0 rfl) ?_
    refine t_getfd C h t hu0 (by decide) wf_12 (v := .int nx) k_u0_5 fl_X0_44 dX0_takeBack_11 ?_
    refine lv_bipush (v := 12) hx hb dX0_takeBack_14 (by decide) ?_
    refine i_addk hx hb dX0_takeBack_16 hnx (k := 12) rfl (lo := 12) (hi := 23) (by decide) (fun z6 ez6 mz6 iz6 => ?_)
    refine lv_iconst (v := 1) hx hb dX0_takeBack_17 (by decide) ?_
    refine i_subk hx hb dX0_takeBack_18 iz6 (k := 1) rfl (lo := 11) (hi := 22) (by decide) (fun z7 ez7 mz7 iz7 => ?_)
    refine lv_bipush (v := 12) hx hb dX0_takeBack_19 (by decide) ?_
    refine lv_irem hx hb dX0_takeBack_21 (by decide) (i_topm (P := fun q_ => q_ = Int32.toInt z7 % 12) (iv_remx (k := 12) (iv_w iz7 (by decide) : iv _ 0 22) rfl (by decide)) (fun z8 ez8 mz8 iz8 => ?_))
    refine t_put C h t o hu0 (by decide) (by decide) (by decide) wf_12 fw_12 (k := 5) rfl flw_X0_44 (Or.inr ⟨_, _, _, rfl, rfl⟩) (v := .int z8) rfl rfl ⟨_, rfl, iz8⟩ dX0_takeBack_22 (fun f9 H locs h tf9 of9 hq ha_ hn_ hk_ => ?_)
    have k10 := hk_ 0 _ (by decide) k_u0_0
    have k12 := hk_ 1 _ (by decide) k_u0_1
    have k13 := hk_ 3 _ (by decide) k_u0_3
    have k14 := atp.tg k_sn_0 hq hsn (by decide)
    have k15 := atp.tg k_sn_1 hq hsn (by decide)
    have k16 := atp.tg k_sq_0 hq hsq (by decide)
    have k17 := atp.tg k_sq_1 hq hsq (by decide)
    have k18 := atp.tg hRqn hq hqn (by decide)
    have k19 := atp.tg hRbf hq hbf (by decide)
    have k20 := atp.tg hRqa hq hqa (by decide)
    have k21 := FX.up hfx hn_ (by simp)
    have k22 := ha_
    refine lv_aload_n hx hb dX0_takeBack_25 rfl (lv_at hl 0 rfl) ?_
    refine t_getfd C h tf9 hu0 (by decide) wf_12 (v := .ref sn) k12 fl_X0_12 dX0_takeBack_26 ?_
    refine lv_aload_n hx hb dX0_takeBack_29 rfl (lv_at hl 0 rfl) ?_
    refine t_getfd C h tf9 hu0 (by decide) wf_12 (v := .ref bf) k13 fl_X0_21 dX0_takeBack_30 ?_
    refine lv_aload_n hx hb dX0_takeBack_33 rfl (lv_at hl 0 rfl) ?_
    refine t_getfd C h tf9 hu0 (by decide) wf_12 (v := .int z8) k22 fl_X0_44 dX0_takeBack_34 ?_
    refine e_aaldR C h tf9 (g := 3) rfl hbf (by decide) wf_17 k19 (iv_in iz8 (by decide)) dX0_takeBack_37 (fun q23 eq23 tq23 => ?_)
    obtain rfl : sq = q23 := (Option.some.inj (eq23.symm.trans ((congrArg rf (by omega)).trans esq))).symm
    obtain ⟨_, r24⟩ := t_rec tf9 hsn (by decide) wf_15
    refine k_v (r_V C h hl (As := [.ref sq]) (rest := []) (s_X5_copy15_18 l D G b0 τ f9 tf9 sn hsn sq hsq qn hqn k14 qa hqa k16 sa hsa k17 rn k18 ra k20 hab) r24 (Cn := RX5) (T := TX5) (N := 2) rfl rfl mk_X5_copy w_585 w_586 w_587 w_588 ⟨Nat.le_of_ble_eq_true rfl, Nat.le_of_ble_eq_true rfl⟩ rfl (Nat.le_of_ble_eq_true rfl) ⟨Nat.le_of_ble_eq_true rfl, Nat.le_of_ble_eq_true rfl⟩ rfl dX0_takeBack_38) h (fun f26 H locs p27 h => ?_)
    obtain ⟨tf26, ogf26, ⟨sz1_f26, kpu0_1f26, ipu0_1f26, rpu0_1f26⟩, ⟨ra1_f26, kRqaf26, pRqaf26⟩, fxf26⟩ := p27
    have of26 : Fr [4, 12, 15, 12001, 12006, 15002] τ f f26 := Fr.tr of9 ogf26 (by decide) (by decide)
    have k28 := atp.fr k10 ogf26 hu0 (by decide)
    have k29 := atp.fr k12 ogf26 hu0 (by decide)
    have k30 := atp.fr k13 ogf26 hu0 (by decide)
    have k31 := atp.fk k14 ogf26 hsn (by decide) (by decide)
    have k32 := atp.fr k16 ogf26 hsq (by decide)
    have k33 := atp.fr k17 ogf26 hsq (by decide)
    have k34 := atp.fr k19 ogf26 hbf (by decide)
    have k35 := atp.fx k20 fxf26 (nmc hab (nmc (ne_tg hqa hsn (by decide)) nm0))
    have k36 := FX.tr k21 fxf26 (by simp)
    have k37 := atp.fr k22 ogf26 hu0 (by decide)
    refine lv_aload_n hx hb dX0_takeBack_41 rfl (lv_at hl 0 rfl) ?_
    refine lv_dup hx hb dX0_takeBack_42 rfl ?_
    refine t_getfd C h tf26 hu0 (by decide) wf_12 (v := .int ac) k28 fl_X0_51 dX0_takeBack_43 ?_
    refine lv_iconst (v := 1) hx hb dX0_takeBack_46 (by decide) ?_
    refine i_subk hx hb dX0_takeBack_47 i3 (k := 1) rfl (lo := 0) (hi := 11) (by decide) (fun z38 ez38 mz38 iz38 => ?_)
    refine t_put C h tf26 of26 hu0 (by decide) (by decide) (by decide) wf_12 fw_12 (k := 0) rfl flw_X0_51 (Or.inr ⟨_, _, _, rfl, rfl⟩) (v := .int z38) rfl rfl ⟨_, rfl, (iv_w iz38 (by decide))⟩ dX0_takeBack_48 (fun f39 H locs h tf39 of39 hq ha_ hn_ hk_ => ?_)
    have k41 := hk_ 1 _ (by decide) k29
    have k42 := hk_ 3 _ (by decide) k30
    have k43 := atp.tg k31 hq hsn (by decide)
    have k44 := atp.tg k32 hq hsq (by decide)
    have k45 := atp.tg k33 hq hsq (by decide)
    have k46 := atp.tg k34 hq hbf (by decide)
    have k47 := atp.tg k35 hq hqa (by decide)
    have k48 := FX.up k36 hn_ (by simp)
    have k49 := hk_ 5 _ (by decide) k37
    have k50 := atp.tg kpu0_1f26 hq hsn (by decide)
    have k51 := atp.tg kRqaf26 hq hqn (by decide)
    have k52 := ha_
    refine lv_aload_n hx hb dX0_takeBack_51 rfl (lv_at hl 0 rfl) ?_
    refine t_getfd C h tf39 hu0 (by decide) wf_12 (v := .int z38) k52 fl_X0_51 dX0_takeBack_52 ?_
    exact u_iret C h hr hQ (⟨(iv_w iz38 (by decide)), tf39, of39, (by omega), ⟨z8, k49, iz8, (by omega)⟩, ⟨z38, k52, (iv_w iz38 (by decide)), (by omega)⟩, ⟨sz1_f26, k50, ipu0_1f26, (by omega)⟩, ⟨ra1_f26, k51, (fun k hk => by rw [if_neg (by omega)]; exact pRqaf26 k hk)⟩, k48⟩) (Nat.le_of_ble_eq_true rfl) (Nat.le_of_ble_eq_true rfl) dX0_takeBack_55
  · have c4 : ac.toInt = 0 := congrArg Int32.toInt c1
    have i5 : iv ac 0 0 := iv_Q c4 hac (iv_k (x := 0) (k := 0) rfl) (by decide)
    refine lv_iconst (v := -1) hx hb dX0_takeBack_7 (by decide) ?_
    exact u_iret C h hr hQ (⟨⟨by decide, by decide⟩, t, o, (by have n_ : (-1 : Int32).toInt = -1 := rfl; omega), ⟨nx, k_u0_5, hnx, (by omega)⟩, ⟨ac, k_u0_0, (iv_w i5 (by decide)), (by omega)⟩, ⟨sz, k_sn_1, hsz, (by omega)⟩, ⟨rn, hRqn, (fun k hk => by rw [if_pos (by omega)])⟩, hfx⟩) (Nat.le_of_ble_eq_true rfl) (Nat.le_of_ble_eq_true rfl) dX0_takeBack_8
abbrev rm_s_X0_keepX : Room := { frames := 1, cells := 0, slots := 0, locals := 22 }
set_option maxRecDepth 100000 in
set_option maxHeartbeats 4000000 in
theorem s_X0_keepX (l : Launch) (D : va_G) (G : Nat → Nat) (b0 : Nat) (τ : Nat → Nat) (f : hM) (t : TI G 9 τ f) (u0 : Nat) (hu0 : τ u0 = 12) (sn : Nat) (hsn : τ sn = 15) (k_u0_1 : atp f u0 (fd 1 (.ref sn))) (qn : Nat) (hqn : τ qn = 4) (k_sn_0 : atp f sn (fd 0 (.ref qn))) (sz : Int32) (hsz : iv sz 0 8) (k_sn_1 : atp f sn (fd 1 (.int sz))) (hi : Int32) (hhi : iv hi 0 1) (k_u0_4 : atp f u0 (fd 4 (.int hi))) (sk : Nat) (hsk : τ sk = 16) (k_u0_2 : atp f u0 (fd 2 (.ref sk))) (qk : Nat) (hqk : τ qk = 4) (k_sk_0 : atp f sk (fd 0 (.ref qk))) (rn : Nat → Option Nat) (hRqn : atp f qn (eqr G 4 8 rn)) (rk : Nat → Option Nat) (hRqk : atp f qk (eqr G 4 8 rk)) (hab : qn ≠ qk)  : mI l yX0_keep cX0_keep 1 (.int) rm_s_X0_keepX D G b0 f [.ref u0] (fun r f1 => iv r 0 8 ∧ TI G 9 τ f1 ∧ Fr [4, 12, 16, 12005, 16002] τ f f1 ∧ (r.toInt = sz.toInt) ∧ (∃ hi1 : Int32, atp f1 u0 (fd 4 (.int hi1)) ∧ iv hi1 1 1 ∧ hi1.toInt = 1) ∧ (∃ szk : Int32, atp f1 sk (fd 1 (.int szk)) ∧ iv szk 0 8 ∧ szk.toInt = sz.toInt) ∧ (∃ rk1 : Nat → Option Nat, atp f1 qk (eqr G 4 8 rk1) ∧ (∀ k : Nat, k < 8 → rk1 k = rn k)) ∧ FX [qk, sk, u0] f f1) := by
  refine met2 (own := RX0) (by decide) rfl (Nat.le_of_ble_eq_true rfl) ?_
  intro p e s m args below meth c ls Q hQ C hr hini hl h
  have hl : lv_has ls 1 [(0, .ref u0)] := hl
  obtain ⟨hx, hb, hml, hown, hts, hE0, hlk⟩ := id C
  have o := Fr.rf [4, 12, 16, 12005, 16002] τ f
  have hfx := FX.rf [qk, sk, u0] f
  refine lv_aload_n hx hb dX0_keep_0 rfl (lv_at hl 0 rfl) ?_
  refine t_getfd C h t hu0 (by decide) wf_12 (v := .ref sk) k_u0_2 fl_X0_18 dX0_keep_1 ?_
  refine lv_aload_n hx hb dX0_keep_4 rfl (lv_at hl 0 rfl) ?_
  refine t_getfd C h t hu0 (by decide) wf_12 (v := .ref sn) k_u0_1 fl_X0_12 dX0_keep_5 ?_
  obtain ⟨_, r1⟩ := t_rec t hsk (by decide) wf_16
  refine k_v (r_V C h hl (As := [.ref sn]) (rest := []) (s_X5_copy16_15 l D G b0 τ f t sk hsk sn hsn qk hqk k_sk_0 qn hqn k_sn_0 sz hsz k_sn_1 rk hRqk rn hRqn hab) r1 (Cn := RX5) (T := TX5) (N := 2) rfl rfl mk_X5_copy w_585 w_586 w_587 w_588 ⟨Nat.le_of_ble_eq_true rfl, Nat.le_of_ble_eq_true rfl⟩ rfl (Nat.le_of_ble_eq_true rfl) ⟨Nat.le_of_ble_eq_true rfl, Nat.le_of_ble_eq_true rfl⟩ rfl dX0_keep_8) h (fun f3 H locs p4 h => ?_)
  obtain ⟨tf3, ogf3, ⟨sz1_f3, kpu0_1f3, ipu0_1f3, rpu0_1f3⟩, ⟨ra1_f3, kRqaf3, pRqaf3⟩, fxf3⟩ := p4
  have of3 : Fr [4, 12, 16, 12005, 16002] τ f f3 := Fr.tr o ogf3 (by decide) (by decide)
  have k5 := atp.fr k_u0_1 ogf3 hu0 (by decide)
  have k6 := atp.fr k_sn_0 ogf3 hsn (by decide)
  have k7 := atp.fr k_sn_1 ogf3 hsn (by decide)
  have k8 := atp.fr k_u0_4 ogf3 hu0 (by decide)
  have k9 := atp.fr k_u0_2 ogf3 hu0 (by decide)
  have k10 := atp.fk k_sk_0 ogf3 hsk (by decide) (by decide)
  have k11 := atp.fx hRqn fxf3 (nmc hab (nmc (ne_tg hqn hsk (by decide)) nm0))
  have k12 := FX.tr hfx fxf3 (by simp)
  refine lv_aload_n hx hb dX0_keep_11 rfl (lv_at hl 0 rfl) ?_
  refine lv_iconst (v := 1) hx hb dX0_keep_12 (by decide) ?_
  refine t_put C h tf3 of3 hu0 (by decide) (by decide) (by decide) wf_12 fw_12 (k := 4) rfl flw_X0_60 (Or.inr ⟨_, _, _, rfl, rfl⟩) (v := .int 1) rfl rfl ⟨_, rfl, ⟨by decide, by decide⟩⟩ dX0_keep_13 (fun f13 H locs h tf13 of13 hq ha_ hn_ hk_ => ?_)
  have k14 := hk_ 1 _ (by decide) k5
  have k15 := atp.tg k6 hq hsn (by decide)
  have k16 := atp.tg k7 hq hsn (by decide)
  have k18 := hk_ 2 _ (by decide) k9
  have k19 := atp.tg k10 hq hsk (by decide)
  have k20 := atp.tg k11 hq hqn (by decide)
  have k21 := FX.up k12 hn_ (by simp)
  have k22 := atp.tg kpu0_1f3 hq hsk (by decide)
  have k23 := atp.tg kRqaf3 hq hqk (by decide)
  have k24 := ha_
  refine lv_aload_n hx hb dX0_keep_16 rfl (lv_at hl 0 rfl) ?_
  refine t_getfd C h tf13 hu0 (by decide) wf_12 (v := .ref sn) k14 fl_X0_12 dX0_keep_17 ?_
  refine t_getfd C h tf13 hsn (by decide) wf_15 (v := .int sz) k16 fl_X0_25 dX0_keep_20 ?_
  exact u_iret C h hr hQ (⟨hsz, tf13, of13, (by omega), ⟨1, k24, ⟨by decide, by decide⟩, (by decide)⟩, ⟨sz1_f3, k22, ipu0_1f3, (by omega)⟩, ⟨ra1_f3, k23, pRqaf3⟩, k21⟩) (Nat.le_of_ble_eq_true rfl) (Nat.le_of_ble_eq_true rfl) dX0_keep_23
abbrev rm_s_X0_restoreX : Room := { frames := 1, cells := 0, slots := 0, locals := 22 }
set_option maxRecDepth 100000 in
set_option maxHeartbeats 4000000 in
theorem s_X0_restoreX (l : Launch) (D : va_G) (G : Nat → Nat) (b0 : Nat) (τ : Nat → Nat) (f : hM) (t : TI G 9 τ f) (u0 : Nat) (hu0 : τ u0 = 12) (ac : Int32) (hac : iv ac 0 12) (k_u0_0 : atp f u0 (fd 0 (.int ac))) (sn : Nat) (hsn : τ sn = 15) (k_u0_1 : atp f u0 (fd 1 (.ref sn))) (qn : Nat) (hqn : τ qn = 4) (k_sn_0 : atp f sn (fd 0 (.ref qn))) (sz : Int32) (hsz : iv sz 0 8) (k_sn_1 : atp f sn (fd 1 (.int sz))) (hi : Int32) (hhi : iv hi 0 1) (k_u0_4 : atp f u0 (fd 4 (.int hi))) (sk : Nat) (hsk : τ sk = 16) (k_u0_2 : atp f u0 (fd 2 (.ref sk))) (qk : Nat) (hqk : τ qk = 4) (k_sk_0 : atp f sk (fd 0 (.ref qk))) (sy : Int32) (hsy : iv sy 0 8) (k_sk_1 : atp f sk (fd 1 (.int sy))) (rn : Nat → Option Nat) (hRqn : atp f qn (eqr G 4 8 rn)) (rk : Nat → Option Nat) (hRqk : atp f qk (eqr G 4 8 rk)) (hab : qk ≠ qn)  : mI l yX0_restore cX0_restore 1 (.int) rm_s_X0_restoreX D G b0 f [.ref u0] (fun r f1 => iv r (-1) 8 ∧ TI G 9 τ f1 ∧ Fr [4, 12, 15, 12001, 15002] τ f f1 ∧ ((hi.toInt = 0 → r.toInt = -1) ∧ (hi.toInt ≠ 0 → r.toInt = sy.toInt)) ∧ (∃ ac1 : Int32, atp f1 u0 (fd 0 (.int ac1)) ∧ iv ac1 0 12 ∧ (hi.toInt = 0 → ac1.toInt = ac.toInt) ∧ (hi.toInt ≠ 0 → ac1.toInt = 0)) ∧ (∃ szn : Int32, atp f1 sn (fd 1 (.int szn)) ∧ iv szn 0 8 ∧ (hi.toInt = 0 → szn.toInt = sz.toInt) ∧ (hi.toInt ≠ 0 → szn.toInt = sy.toInt)) ∧ (∃ rn1 : Nat → Option Nat, atp f1 qn (eqr G 4 8 rn1) ∧ (∀ k : Nat, k < 8 → rn1 k = if hi.toInt = 0 then rn k else rk k)) ∧ FX [qn, sn, u0] f f1) := by
  refine met2 (own := RX0) (by decide) rfl (Nat.le_of_ble_eq_true rfl) ?_
  intro p e s m args below meth c ls Q hQ C hr hini hl h
  have hl : lv_has ls 1 [(0, .ref u0)] := hl
  obtain ⟨hx, hb, hml, hown, hts, hE0, hlk⟩ := id C
  have o := Fr.rf [4, 12, 15, 12001, 15002] τ f
  have hfx := FX.rf [qn, sn, u0] f
  refine lv_aload_n hx hb dX0_restore_0 rfl (lv_at hl 0 rfl) ?_
  refine t_getfd C h t hu0 (by decide) wf_12 (v := .int hi) k_u0_4 fl_X0_60 dX0_restore_1 ?_
  refine lv_if_ne (tgt := 9) hx hb dX0_restore_4 (by decide) (fun c1 => ?_) (fun c1 => ?_)
  · have c2 : hi.toInt ≠ 0 := fun z_ => c1 (Int32.toInt_inj.mp z_)
    have i3 : iv hi 1 1 := iv_Nl c2 hhi (by decide)
    refine lv_aload_n hx hb dX0_restore_9 rfl (lv_at hl 0 rfl) ?_
    refine t_getfd C h t hu0 (by decide) wf_12 (v := .ref sn) k_u0_1 fl_X0_12 dX0_restore_10 ?_
    refine lv_aload_n hx hb dX0_restore_13 rfl (lv_at hl 0 rfl) ?_
    refine t_getfd C h t hu0 (by decide) wf_12 (v := .ref sk) k_u0_2 fl_X0_18 dX0_restore_14 ?_
    obtain ⟨_, r6⟩ := t_rec t hsn (by decide) wf_15
    refine k_v (r_V C h hl (As := [.ref sk]) (rest := []) (s_X5_copy15_16 l D G b0 τ f t sn hsn sk hsk qn hqn k_sn_0 qk hqk k_sk_0 sy hsy k_sk_1 rn hRqn rk hRqk hab) r6 (Cn := RX5) (T := TX5) (N := 2) rfl rfl mk_X5_copy w_585 w_586 w_587 w_588 ⟨Nat.le_of_ble_eq_true rfl, Nat.le_of_ble_eq_true rfl⟩ rfl (Nat.le_of_ble_eq_true rfl) ⟨Nat.le_of_ble_eq_true rfl, Nat.le_of_ble_eq_true rfl⟩ rfl dX0_restore_17) h (fun f8 H locs p9 h => ?_)
    obtain ⟨tf8, ogf8, ⟨sz1_f8, kpu0_1f8, ipu0_1f8, rpu0_1f8⟩, ⟨ra1_f8, kRqaf8, pRqaf8⟩, fxf8⟩ := p9
    have of8 : Fr [4, 12, 15, 12001, 15002] τ f f8 := Fr.tr o ogf8 (by decide) (by decide)
    have k10 := atp.fr k_u0_0 ogf8 hu0 (by decide)
    have k11 := atp.fr k_u0_1 ogf8 hu0 (by decide)
    have k12 := atp.fk k_sn_0 ogf8 hsn (by decide) (by decide)
    have k13 := atp.fr k_u0_4 ogf8 hu0 (by decide)
    have k14 := atp.fr k_u0_2 ogf8 hu0 (by decide)
    have k15 := atp.fr k_sk_0 ogf8 hsk (by decide)
    have k16 := atp.fr k_sk_1 ogf8 hsk (by decide)
    have k17 := atp.fx hRqk fxf8 (nmc hab (nmc (ne_tg hqk hsn (by decide)) nm0))
    have k18 := FX.tr hfx fxf8 (by simp)
    refine lv_aload_n hx hb dX0_restore_20 rfl (lv_at hl 0 rfl) ?_
    refine lv_iconst (v := 0) hx hb dX0_restore_21 (by decide) ?_
    refine t_put C h tf8 of8 hu0 (by decide) (by decide) (by decide) wf_12 fw_12 (k := 0) rfl flw_X0_51 (Or.inr ⟨_, _, _, rfl, rfl⟩) (v := .int 0) rfl rfl ⟨_, rfl, ⟨by decide, by decide⟩⟩ dX0_restore_22 (fun f19 H locs h tf19 of19 hq ha_ hn_ hk_ => ?_)
    have k21 := hk_ 1 _ (by decide) k11
    have k22 := atp.tg k12 hq hsn (by decide)
    have k23 := hk_ 4 _ (by decide) k13
    have k24 := hk_ 2 _ (by decide) k14
    have k25 := atp.tg k15 hq hsk (by decide)
    have k26 := atp.tg k16 hq hsk (by decide)
    have k27 := atp.tg k17 hq hqk (by decide)
    have k28 := FX.up k18 hn_ (by simp)
    have k29 := atp.tg kpu0_1f8 hq hsn (by decide)
    have k30 := atp.tg kRqaf8 hq hqn (by decide)
    have k31 := ha_
    refine lv_aload_n hx hb dX0_restore_25 rfl (lv_at hl 0 rfl) ?_
    refine t_getfd C h tf19 hu0 (by decide) wf_12 (v := .ref sn) k21 fl_X0_12 dX0_restore_26 ?_
    refine t_getfd C h tf19 hsn (by decide) wf_15 (v := .int sz1_f8) k29 fl_X0_25 dX0_restore_29 ?_
    exact u_iret C h hr hQ (⟨(iv_w ipu0_1f8 (by decide)), tf19, of19, (by omega), ⟨0, k31, ⟨by decide, by decide⟩, (by have n_ : (0 : Int32).toInt = 0 := rfl; omega)⟩, ⟨sz1_f8, k29, ipu0_1f8, (by omega)⟩, ⟨ra1_f8, k30, (fun k hk => by rw [if_neg (by omega)]; exact pRqaf8 k hk)⟩, k28⟩) (Nat.le_of_ble_eq_true rfl) (Nat.le_of_ble_eq_true rfl) dX0_restore_32
  · have c4 : hi.toInt = 0 := congrArg Int32.toInt c1
    have i5 : iv hi 0 0 := iv_Q c4 hhi (iv_k (x := 0) (k := 0) rfl) (by decide)
    refine lv_iconst (v := -1) hx hb dX0_restore_7 (by decide) ?_
    exact u_iret C h hr hQ (⟨⟨by decide, by decide⟩, t, o, (by have n_ : (-1 : Int32).toInt = -1 := rfl; omega), ⟨ac, k_u0_0, hac, (by have n_ : (0 : Int32).toInt = 0 := rfl; omega)⟩, ⟨sz, k_sn_1, hsz, (by omega)⟩, ⟨rn, hRqn, (fun k hk => by rw [if_pos (by omega)])⟩, hfx⟩) (Nat.le_of_ble_eq_true rfl) (Nat.le_of_ble_eq_true rfl) dX0_restore_8
