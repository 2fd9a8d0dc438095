theorem dX11_refuse_0 : decode cX11_refuse 0 = .ok (.aload_n 0, 1) := by decide +kernel
theorem dX11_refuse_1 : decode cX11_refuse 1 = .ok (.getfield 26, 3) := by decide +kernel
theorem dX11_refuse_4 : decode cX11_refuse 4 = .ok (.iload_n 1, 1) := by decide +kernel
theorem dX11_refuse_5 : decode cX11_refuse 5 = .ok (.dup2, 1) := by decide +kernel
theorem dX11_refuse_6 : decode cX11_refuse 6 = .ok (.iaload, 1) := by decide +kernel
theorem dX11_refuse_7 : decode cX11_refuse 7 = .ok (.iconst 1, 1) := by decide +kernel
theorem dX11_refuse_8 : decode cX11_refuse 8 = .ok (.iadd, 1) := by decide +kernel
theorem dX11_refuse_9 : decode cX11_refuse 9 = .ok (.iastore, 1) := by decide +kernel
theorem dX11_refuse_10 : decode cX11_refuse 10 = .ok (.iconst (-1), 1) := by decide +kernel
theorem dX11_refuse_11 : decode cX11_refuse 11 = .ok (.ireturn, 1) := by decide +kernel
theorem dX11_keeps_0 : decode cX11_keeps 0 = .ok (.aload_n 0, 1) := by decide +kernel
theorem dX11_keeps_1 : decode cX11_keeps 1 = .ok (.getfield 155, 3) := by decide +kernel
theorem dX11_keeps_4 : decode cX11_keeps 4 = .ok (.bipush 12, 2) := by decide +kernel
theorem dX11_keeps_6 : decode cX11_keeps 6 = .ok (.if_icmp .ne 44, 3) := by decide +kernel
theorem dX11_keeps_50 : decode cX11_keeps 50 = .ok (.iconst 0, 1) := by decide +kernel
theorem dX11_keeps_51 : decode cX11_keeps 51 = .ok (.istore_n 1, 1) := by decide +kernel
theorem dX11_keeps_9 : decode cX11_keeps 9 = .ok (.bipush 81, 2) := by decide +kernel
theorem dX11_keeps_11 : decode cX11_keeps 11 = .ok (.istore_n 1, 1) := by decide +kernel
theorem dX11_keeps_12 : decode cX11_keeps 12 = .ok (.iload_n 1, 1) := by decide +kernel
theorem dX11_keeps_13 : decode cX11_keeps 13 = .ok (.sipush 972, 3) := by decide +kernel
theorem dX11_keeps_16 : decode cX11_keeps 16 = .ok (.if_icmp .ge 24, 3) := by decide +kernel
theorem dX11_keeps_19 : decode cX11_keeps 19 = .ok (.aload_n 0, 1) := by decide +kernel
theorem dX11_keeps_20 : decode cX11_keeps 20 = .ok (.getfield 23, 3) := by decide +kernel
theorem w_1441 : Cond.fieldLink "QuarterWalksModel" 23 "QuarterWalksModel" "kept" "[I" ∈ wAll := wI6 146 (by decide +kernel) (by decide +kernel)
theorem fl_X11_23 : fl RX11 23 12 8 := ⟨RX11, TX11, 32, rfl, inA_X11, by decide, w_1441⟩
theorem dX11_keeps_23 : decode cX11_keeps 23 = .ok (.iload_n 1, 1) := by decide +kernel
theorem dX11_keeps_24 : decode cX11_keeps 24 = .ok (.bipush 81, 2) := by decide +kernel
theorem dX11_keeps_26 : decode cX11_keeps 26 = .ok (.isub, 1) := by decide +kernel
theorem dX11_keeps_27 : decode cX11_keeps 27 = .ok (.aload_n 0, 1) := by decide +kernel
theorem dX11_keeps_28 : decode cX11_keeps 28 = .ok (.getfield 23, 3) := by decide +kernel
theorem dX11_keeps_31 : decode cX11_keeps 31 = .ok (.iload_n 1, 1) := by decide +kernel
theorem dX11_keeps_32 : decode cX11_keeps 32 = .ok (.iaload, 1) := by decide +kernel
theorem dX11_keeps_33 : decode cX11_keeps 33 = .ok (.iastore, 1) := by decide +kernel
theorem dX11_keeps_34 : decode cX11_keeps 34 = .ok (.iinc 1 1, 3) := by decide +kernel
theorem dX11_keeps_37 : decode cX11_keeps 37 = .ok (.goto (-25), 3) := by decide +kernel
theorem dX11_keeps_40 : decode cX11_keeps 40 = .ok (.aload_n 0, 1) := by decide +kernel
theorem dX11_keeps_41 : decode cX11_keeps 41 = .ok (.dup, 1) := by decide +kernel
theorem dX11_keeps_42 : decode cX11_keeps 42 = .ok (.getfield 155, 3) := by decide +kernel
theorem dX11_keeps_45 : decode cX11_keeps 45 = .ok (.iconst 1, 1) := by decide +kernel
theorem dX11_keeps_46 : decode cX11_keeps 46 = .ok (.isub, 1) := by decide +kernel
theorem dX11_keeps_47 : decode cX11_keeps 47 = .ok (.putfield 155, 3) := by decide +kernel
theorem flw_X11_155 : flw RX11 155 12 10 (.int) := ⟨RX11, TX11, 32, tyX11, rfl, inA_X11, by decide, w_1443, tyX11_ok, nmX11, by decide +kernel, Or.inl rfl⟩
theorem dX11_keeps_52 : decode cX11_keeps 52 = .ok (.iload_n 1, 1) := by decide +kernel
theorem dX11_keeps_53 : decode cX11_keeps 53 = .ok (.bipush 81, 2) := by decide +kernel
theorem dX11_keeps_55 : decode cX11_keeps 55 = .ok (.if_icmp .ge 29, 3) := by decide +kernel
theorem dX11_keeps_58 : decode cX11_keeps 58 = .ok (.aload_n 0, 1) := by decide +kernel
theorem dX11_keeps_59 : decode cX11_keeps 59 = .ok (.getfield 23, 3) := by decide +kernel
theorem dX11_keeps_62 : decode cX11_keeps 62 = .ok (.bipush 81, 2) := by decide +kernel
theorem dX11_keeps_64 : decode cX11_keeps 64 = .ok (.aload_n 0, 1) := by decide +kernel
theorem dX11_keeps_65 : decode cX11_keeps 65 = .ok (.getfield 155, 3) := by decide +kernel
theorem dX11_keeps_68 : decode cX11_keeps 68 = .ok (.imul, 1) := by decide +kernel
theorem dX11_keeps_69 : decode cX11_keeps 69 = .ok (.iload_n 1, 1) := by decide +kernel
theorem dX11_keeps_70 : decode cX11_keeps 70 = .ok (.iadd, 1) := by decide +kernel
theorem dX11_keeps_71 : decode cX11_keeps 71 = .ok (.aload_n 0, 1) := by decide +kernel
theorem dX11_keeps_72 : decode cX11_keeps 72 = .ok (.getfield 17, 3) := by decide +kernel
theorem dX11_keeps_75 : decode cX11_keeps 75 = .ok (.iload_n 1, 1) := by decide +kernel
theorem dX11_keeps_76 : decode cX11_keeps 76 = .ok (.iaload, 1) := by decide +kernel
theorem dX11_keeps_77 : decode cX11_keeps 77 = .ok (.iastore, 1) := by decide +kernel
theorem dX11_keeps_78 : decode cX11_keeps 78 = .ok (.iinc 1 1, 3) := by decide +kernel
theorem dX11_keeps_81 : decode cX11_keeps 81 = .ok (.goto (-29), 3) := by decide +kernel
theorem dX11_keeps_84 : decode cX11_keeps 84 = .ok (.aload_n 0, 1) := by decide +kernel
theorem dX11_keeps_85 : decode cX11_keeps 85 = .ok (.dup, 1) := by decide +kernel
theorem dX11_keeps_86 : decode cX11_keeps 86 = .ok (.getfield 155, 3) := by decide +kernel
theorem dX11_keeps_89 : decode cX11_keeps 89 = .ok (.iconst 1, 1) := by decide +kernel
theorem dX11_keeps_90 : decode cX11_keeps 90 = .ok (.iadd, 1) := by decide +kernel
theorem dX11_keeps_91 : decode cX11_keeps 91 = .ok (.putfield 155, 3) := by decide +kernel
theorem dX11_keeps_94 : decode cX11_keeps 94 = .ok (.return_, 1) := by decide +kernel
theorem dX11_comes_0 : decode cX11_comes 0 = .ok (.aload_n 0, 1) := by decide +kernel
theorem dX11_comes_1 : decode cX11_comes 1 = .ok (.invokevirtual 162, 3) := by decide +kernel
theorem w_1612 : Cond.methodLink "QuarterWalksModel" 162 yX11_keeps ∈ wAll := wI7 77 (by decide +kernel) (by decide +kernel)
theorem w_50 : Cond.selects yX11_keeps.cls yX11_keeps yX11_keeps ∈ wAll := wIn 50 (by decide +kernel) (by decide +kernel)
theorem mk_X11_keeps : mk yX11_keeps 0 := ⟨by decide +kernel, w_110⟩
theorem w_1614 : Cond.instanceMethod yX11_keeps ∈ wAll := wI7 79 (by decide +kernel) (by decide +kernel)
theorem w_1615 : Cond.code yX11_keeps cX11_keeps 2 none ∈ wAll := wI7 80 (by decide +kernel) (by decide +kernel)
theorem dX11_comes_4 : decode cX11_comes 4 = .ok (.iconst 0, 1) := by decide +kernel
theorem dX11_comes_5 : decode cX11_comes 5 = .ok (.istore_n 1, 1) := by decide +kernel
theorem dX11_comes_6 : decode cX11_comes 6 = .ok (.iload_n 1, 1) := by decide +kernel
theorem dX11_comes_7 : decode cX11_comes 7 = .ok (.bipush 10, 2) := by decide +kernel
theorem dX11_comes_9 : decode cX11_comes 9 = .ok (.if_icmp .ge 32, 3) := by decide +kernel
theorem dX11_comes_12 : decode cX11_comes 12 = .ok (.aload_n 0, 1) := by decide +kernel
theorem dX11_comes_13 : decode cX11_comes 13 = .ok (.getfield 17, 3) := by decide +kernel
theorem dX11_comes_16 : decode cX11_comes 16 = .ok (.bipush 10, 2) := by decide +kernel
theorem dX11_comes_18 : decode cX11_comes 18 = .ok (.aload_n 0, 1) := by decide +kernel
theorem dX11_comes_19 : decode cX11_comes 19 = .ok (.getfield 17, 3) := by decide +kernel
theorem dX11_comes_22 : decode cX11_comes 22 = .ok (.bipush 80, 2) := by decide +kernel
theorem dX11_comes_24 : decode cX11_comes 24 = .ok (.iaload, 1) := by decide +kernel
theorem dX11_comes_25 : decode cX11_comes 25 = .ok (.imul, 1) := by decide +kernel
theorem dX11_comes_26 : decode cX11_comes 26 = .ok (.iload_n 1, 1) := by decide +kernel
theorem dX11_comes_27 : decode cX11_comes 27 = .ok (.iadd, 1) := by decide +kernel
theorem dX11_comes_28 : decode cX11_comes 28 = .ok (.aload_n 0, 1) := by decide +kernel
theorem dX11_comes_29 : decode cX11_comes 29 = .ok (.getfield 13, 3) := by decide +kernel
theorem w_1438 : Cond.fieldLink "QuarterWalksModel" 13 "QuarterWalksModel" "read" "[I" ∈ wAll := wI6 143 (by decide +kernel) (by decide +kernel)
theorem fl_X11_13 : fl RX11 13 12 5 := ⟨RX11, TX11, 32, rfl, inA_X11, by decide, w_1438⟩
theorem dX11_comes_32 : decode cX11_comes 32 = .ok (.iload_n 1, 1) := by decide +kernel
theorem dX11_comes_33 : decode cX11_comes 33 = .ok (.iaload, 1) := by decide +kernel
theorem dX11_comes_34 : decode cX11_comes 34 = .ok (.iastore, 1) := by decide +kernel
theorem dX11_comes_35 : decode cX11_comes 35 = .ok (.iinc 1 1, 3) := by decide +kernel
theorem dX11_comes_38 : decode cX11_comes 38 = .ok (.goto (-32), 3) := by decide +kernel
theorem dX11_comes_41 : decode cX11_comes 41 = .ok (.aload_n 0, 1) := by decide +kernel
theorem dX11_comes_42 : decode cX11_comes 42 = .ok (.getfield 17, 3) := by decide +kernel
theorem dX11_comes_45 : decode cX11_comes 45 = .ok (.bipush 80, 2) := by decide +kernel
theorem dX11_comes_47 : decode cX11_comes 47 = .ok (.dup2, 1) := by decide +kernel
theorem dX11_comes_48 : decode cX11_comes 48 = .ok (.iaload, 1) := by decide +kernel
theorem dX11_comes_49 : decode cX11_comes 49 = .ok (.iconst 1, 1) := by decide +kernel
theorem dX11_comes_50 : decode cX11_comes 50 = .ok (.iadd, 1) := by decide +kernel
theorem dX11_comes_51 : decode cX11_comes 51 = .ok (.iastore, 1) := by decide +kernel
theorem dX11_comes_52 : decode cX11_comes 52 = .ok (.aload_n 0, 1) := by decide +kernel
theorem dX11_comes_53 : decode cX11_comes 53 = .ok (.getfield 17, 3) := by decide +kernel
theorem dX11_comes_56 : decode cX11_comes 56 = .ok (.bipush 80, 2) := by decide +kernel
theorem dX11_comes_58 : decode cX11_comes 58 = .ok (.iaload, 1) := by decide +kernel
theorem dX11_comes_59 : decode cX11_comes 59 = .ok (.iconst 1, 1) := by decide +kernel
theorem dX11_comes_60 : decode cX11_comes 60 = .ok (.isub, 1) := by decide +kernel
theorem dX11_comes_61 : decode cX11_comes 61 = .ok (.ireturn, 1) := by decide +kernel
theorem dX11_drop_0 : decode cX11_drop 0 = .ok (.aload_n 0, 1) := by decide +kernel
theorem dX11_drop_1 : decode cX11_drop 1 = .ok (.iconst 0, 1) := by decide +kernel
theorem dX11_drop_2 : decode cX11_drop 2 = .ok (.putfield 75, 3) := by decide +kernel
theorem dX11_drop_5 : decode cX11_drop 5 = .ok (.aload_n 0, 1) := by decide +kernel
theorem dX11_drop_6 : decode cX11_drop 6 = .ok (.iload_n 1, 1) := by decide +kernel
theorem dX11_drop_7 : decode cX11_drop 7 = .ok (.invokevirtual 171, 3) := by decide +kernel
theorem dX11_drop_10 : decode cX11_drop 10 = .ok (.ifCond .ne 9, 3) := by decide +kernel
theorem dX11_drop_19 : decode cX11_drop 19 = .ok (.aload_n 0, 1) := by decide +kernel
theorem dX11_drop_20 : decode cX11_drop 20 = .ok (.invokevirtual 162, 3) := by decide +kernel
theorem dX11_drop_23 : decode cX11_drop 23 = .ok (.bipush 10, 2) := by decide +kernel
theorem dX11_drop_25 : decode cX11_drop 25 = .ok (.iload_n 1, 1) := by decide +kernel
theorem dX11_drop_26 : decode cX11_drop 26 = .ok (.imul, 1) := by decide +kernel
theorem dX11_drop_27 : decode cX11_drop 27 = .ok (.istore_n 2, 1) := by decide +kernel
theorem dX11_drop_13 : decode cX11_drop 13 = .ok (.aload_n 0, 1) := by decide +kernel
theorem dX11_drop_14 : decode cX11_drop 14 = .ok (.iconst 0, 1) := by decide +kernel
theorem dX11_drop_15 : decode cX11_drop 15 = .ok (.invokevirtual 165, 3) := by decide +kernel
theorem w_1604 : Cond.methodLink "QuarterWalksModel" 165 yX11_refuse ∈ wAll := wI7 69 (by decide +kernel) (by decide +kernel)
theorem w_48 : Cond.selects yX11_refuse.cls yX11_refuse yX11_refuse ∈ wAll := wIn 48 (by decide +kernel) (by decide +kernel)
theorem mk_X11_refuse : mk yX11_refuse 1 := ⟨by decide +kernel, w_110⟩
theorem w_1606 : Cond.instanceMethod yX11_refuse ∈ wAll := wI7 71 (by decide +kernel) (by decide +kernel)
theorem w_1607 : Cond.code yX11_refuse cX11_refuse 2 (some .int) ∈ wAll := wI7 72 (by decide +kernel) (by decide +kernel)
theorem dX11_drop_28 : decode cX11_drop 28 = .ok (.iload_n 2, 1) := by decide +kernel
theorem dX11_drop_29 : decode cX11_drop 29 = .ok (.bipush 70, 2) := by decide +kernel
theorem dX11_drop_31 : decode cX11_drop 31 = .ok (.if_icmp .ge 24, 3) := by decide +kernel
theorem dX11_drop_55 : decode cX11_drop 55 = .ok (.aload_n 0, 1) := by decide +kernel
theorem dX11_drop_56 : decode cX11_drop 56 = .ok (.getfield 17, 3) := by decide +kernel
theorem dX11_drop_59 : decode cX11_drop 59 = .ok (.bipush 80, 2) := by decide +kernel
theorem dX11_drop_61 : decode cX11_drop 61 = .ok (.dup2, 1) := by decide +kernel
theorem dX11_drop_62 : decode cX11_drop 62 = .ok (.iaload, 1) := by decide +kernel
theorem dX11_drop_63 : decode cX11_drop 63 = .ok (.iconst 1, 1) := by decide +kernel
theorem dX11_drop_64 : decode cX11_drop 64 = .ok (.isub, 1) := by decide +kernel
theorem dX11_drop_65 : decode cX11_drop 65 = .ok (.iastore, 1) := by decide +kernel
theorem dX11_drop_66 : decode cX11_drop 66 = .ok (.aload_n 0, 1) := by decide +kernel
theorem dX11_drop_67 : decode cX11_drop 67 = .ok (.getfield 17, 3) := by decide +kernel
theorem dX11_drop_70 : decode cX11_drop 70 = .ok (.bipush 80, 2) := by decide +kernel
theorem dX11_drop_72 : decode cX11_drop 72 = .ok (.iaload, 1) := by decide +kernel
theorem dX11_drop_34 : decode cX11_drop 34 = .ok (.aload_n 0, 1) := by decide +kernel
theorem dX11_drop_35 : decode cX11_drop 35 = .ok (.getfield 17, 3) := by decide +kernel
theorem dX11_drop_38 : decode cX11_drop 38 = .ok (.iload_n 2, 1) := by decide +kernel
theorem dX11_drop_39 : decode cX11_drop 39 = .ok (.aload_n 0, 1) := by decide +kernel
theorem dX11_drop_40 : decode cX11_drop 40 = .ok (.getfield 17, 3) := by decide +kernel
theorem dX11_drop_43 : decode cX11_drop 43 = .ok (.iload_n 2, 1) := by decide +kernel
theorem dX11_drop_44 : decode cX11_drop 44 = .ok (.bipush 10, 2) := by decide +kernel
theorem dX11_drop_46 : decode cX11_drop 46 = .ok (.iadd, 1) := by decide +kernel
theorem dX11_drop_47 : decode cX11_drop 47 = .ok (.iaload, 1) := by decide +kernel
theorem dX11_drop_48 : decode cX11_drop 48 = .ok (.iastore, 1) := by decide +kernel
theorem dX11_drop_49 : decode cX11_drop 49 = .ok (.iinc 2 1, 3) := by decide +kernel
theorem dX11_drop_52 : decode cX11_drop 52 = .ok (.goto (-24), 3) := by decide +kernel
theorem dX11_drop_73 : decode cX11_drop 73 = .ok (.ireturn, 1) := by decide +kernel
theorem dX11_drop_18 : decode cX11_drop 18 = .ok (.ireturn, 1) := by decide +kernel
abbrev rm_s_X11_isInX : Room := { frames := 0, cells := 0, slots := 0, locals := 0 }
set_option maxRecDepth 100000 in
set_option maxHeartbeats 4000000 in
theorem s_X11_isInX (l : Launch) (D : va_G) (G : Nat → Nat) (b0 : Nat) (τ : Nat → Nat) (f : hM) (t : TI G 9 τ f) (u0 : Int64) (u1 : Int64) (u2 : Int64) : mI l yX11_isIn cX11_isIn 6 (.boolean) rm_s_X11_isInX D G b0 f [.long u0, .long u1, .long u2] (fun r f1 => iv r 0 1 ∧ TI G 9 τ f1 ∧ Fr [] τ f f1 ∧ (r.toInt ≠ 0 → u1.toInt ≤ u0.toInt ∧ u0.toInt ≤ u2.toInt) ∧ (r.toInt = 0 → u0.toInt < u1.toInt ∨ u2.toInt < u0.toInt)) := by
  refine met2 (own := RX11) (by decide) rfl (Nat.le_of_ble_eq_true rfl) ?_
  intro p e s m args below meth c ls Q hQ C hr hini hl h
  have hl : lv_has ls 6 [(0, .long u0), (2, .long u1), (4, .long u2)] := hl
  obtain ⟨hx, hb, hml, hown, hts, hE0, hlk⟩ := id C
  have o := Fr.rf [] τ f
  refine lv_lload_n hx hb dX11_isIn_0 rfl (lv_at hl 0 rfl) ?_
  refine lv_lload_n hx hb dX11_isIn_1 rfl (lv_at hl 1 rfl) ?_
  refine W.lcmp hx hb dX11_isIn_2 (i_topc (fun z1 ez1 mz1 iz1 => ?_))
  refine lv_if_lt (tgt := 17) hx hb dX11_isIn_3 (by decide) (fun c2 => ?_) (fun c2 => ?_)
  · have c3 : z1.toInt < 0 := Int32.lt_iff_toInt_lt.mp c2
    have i4 : iv z1 (-1) (-1) := iv_Ll c3 iz1 (iv_k (x := 0) (k := 0) rfl) (by decide)
    refine lv_iconst (v := 0) hx hb dX11_isIn_17 (by decide) ?_
    exact u_zret C h hr hQ ⟨by decide, by decide⟩ (⟨⟨by decide, by decide⟩, t, o, (fun h_ => absurd h_ (by decide)), (fun _ => (by omega))⟩) (Nat.le_of_ble_eq_true rfl) (Nat.le_of_ble_eq_true rfl) dX11_isIn_18
  · have c5 : 0 ≤ z1.toInt := Int32.le_iff_toInt_le.mp (iv_nlt c2)
    have i6 : iv z1 0 1 := iv_Er c5 (iv_k (x := 0) (k := 0) rfl) iz1 (by decide)
    refine lv_lload_n hx hb dX11_isIn_6 rfl (lv_at hl 0 rfl) ?_
    refine lv_lload hx hb dX11_isIn_7 (lv_at hl 2 rfl) ?_
    refine W.lcmp hx hb dX11_isIn_9 (i_topc (fun z7 ez7 mz7 iz7 => ?_))
    refine lv_if_gt (tgt := 17) hx hb dX11_isIn_10 (by decide) (fun c8 => ?_) (fun c8 => ?_)
    · have c9 : 0 < z7.toInt := Int32.lt_iff_toInt_lt.mp c8
      have i10 : iv z7 1 1 := iv_Lr c9 (iv_k (x := 0) (k := 0) rfl) iz7 (by decide)
      refine lv_iconst (v := 0) hx hb dX11_isIn_17 (by decide) ?_
      exact u_zret C h hr hQ ⟨by decide, by decide⟩ (⟨⟨by decide, by decide⟩, t, o, (fun h_ => absurd h_ (by decide)), (fun _ => (by omega))⟩) (Nat.le_of_ble_eq_true rfl) (Nat.le_of_ble_eq_true rfl) dX11_isIn_18
    · have c11 : z7.toInt ≤ 0 := Int32.le_iff_toInt_le.mp (iv_nlt c8)
      have i12 : iv z7 (-1) 0 := iv_El c11 iz7 (iv_k (x := 0) (k := 0) rfl) (by decide)
      refine lv_iconst (v := 1) hx hb dX11_isIn_13 (by decide) ?_
      refine lv_goto (tgt := 18) hx hb dX11_isIn_14 (by decide) ?_
      exact u_zret C h hr hQ ⟨by decide, by decide⟩ (⟨⟨by decide, by decide⟩, t, o, (fun _ => ⟨(by omega), (by omega)⟩), (fun h_ => absurd h_ (by decide))⟩) (Nat.le_of_ble_eq_true rfl) (Nat.le_of_ble_eq_true rfl) dX11_isIn_18
abbrev rm_s_X11_isSetX : Room := { frames := 1, cells := 0, slots := 0, locals := 25 }
set_option maxRecDepth 100000 in
set_option maxHeartbeats 4000000 in
theorem s_X11_isSetX (l : Launch) (D : va_G) (G : Nat → Nat) (b0 : Nat) (τ : Nat → Nat) (f : hM) (t : TI G 9 τ f) (u0 : Nat) (hu0 : τ u0 = 60) (u1 : Int32) (hu1 : iv u1 (-2147483648) 2147483647) (bq : Nat) (hbq : τ bq = 63) (k_u0_6 : atp f u0 (fd 6 (.ref bq))) (rb : Nat → Int32) (hRbq : atp f bq (eqc (.inl (G 1, 81, .inl rb)))) : mI l yX11_isSet cX11_isSet 2 (.boolean) rm_s_X11_isSetX D G b0 f [.ref u0, .int u1] (fun r f1 => iv r 0 1 ∧ TI G 9 τ f1 ∧ Fr [] τ f f1 ∧ (r.toInt ≠ 0 → iv u1 0 7 ∧ u1.toInt < (rb 80).toInt) ∧ (r.toInt = 0 → u1.toInt < 0 ∨ (rb 80).toInt ≤ u1.toInt)) := by
  refine met2 (own := RX11) (by decide) rfl (Nat.le_of_ble_eq_true rfl) ?_
  intro p e s m args below meth c ls Q hQ C hr hini hl h
  have hl : lv_has ls 2 [(0, .ref u0), (1, .int u1)] := hl
  obtain ⟨hx, hb, hml, hown, hts, hE0, hlk⟩ := id C
  have o := Fr.rf [] τ f
  refine lv_iload_n hx hb dX11_isSet_0 rfl (lv_at hl 1 rfl) ?_
  refine lv_i2l hx hb dX11_isSet_1 rfl (i_topL hu1 (fun w1 ew1 mw1 iw1 => ?_))
  refine lv_lconst (v := 0) hx hb dX11_isSet_2 (by decide) ?_
  refine lv_aload_n hx hb dX11_isSet_3 rfl (lv_at hl 0 rfl) ?_
  refine t_getfd C h t hu0 (by decide) wf_60 (v := .ref bq) k_u0_6 fl_X11_17 dX11_isSet_4 ?_
  refine lv_bipush (v := 80) hx hb dX11_isSet_7 (by decide) ?_
  refine e_bk80 C h t hbq (by decide) wf_63 hRbq dX11_isSet_9 (fun z2 ez2 iz2 => ?_)
  have mz2 := congrArg Int32.toInt ez2
  refine lv_iconst (v := 1) hx hb dX11_isSet_10 (by decide) ?_
  refine i_subk hx hb dX11_isSet_11 iz2 (k := 1) rfl (lo := (-1)) (hi := 7) (by decide) (fun z3 ez3 mz3 iz3 => ?_)
  refine lv_i2l hx hb dX11_isSet_12 rfl (i_topL iz3 (fun w4 ew4 mw4 iw4 => ?_))
  refine k_i (r_S C h hl (As := [.long w1, .long 0, .long w4]) (rest := []) (s_X11_isInX l D G b0 τ f t w1 0 w4) mk_X11_isIn w_1624 w_1625 w_1626 ⟨Nat.le_of_ble_eq_true rfl, Nat.le_of_ble_eq_true rfl⟩ rfl (Nat.le_of_ble_eq_true rfl) ⟨Nat.le_of_ble_eq_true rfl, Nat.le_of_ble_eq_true rfl⟩ rfl dX11_isSet_13) h (fun r5 f6 H locs p7 h => ?_)
  have n8 : (0 : Int64).toInt = 0 := rfl
  obtain ⟨ir5, tf6, ogf6, cnr5, czr5⟩ := p7
  have egf6 := Fr.nil2 ogf6
  subst egf6
  exact u_zret C h hr hQ ir5 (⟨ir5, t, o, (by intro h_; have h9_ := cnr5 h_; omega), (by intro h_; have h9_ := czr5 h_; omega)⟩) (Nat.le_of_ble_eq_true rfl) (Nat.le_of_ble_eq_true rfl) dX11_isSet_16
abbrev rm_s_X11_weightOfX : Room := { frames := 0, cells := 0, slots := 0, locals := 0 }
set_option maxRecDepth 100000 in
set_option maxHeartbeats 4000000 in
theorem s_X11_weightOfX (l : Launch) (D : va_G) (G : Nat → Nat) (b0 : Nat) (τ : Nat → Nat) (f : hM) (t : TI G 9 τ f) (u0 : Nat) (hu0 : τ u0 = 60) (u1 : Int32) (hu1 : iv u1 0 7) (u2 : Int32) (hu2 : iv u2 0 9) (bq : Nat) (hbq : τ bq = 63) (k_u0_6 : atp f u0 (fd 6 (.ref bq))) (rb : Nat → Int32) (hRbq : atp f bq (eqc (.inl (G 1, 81, .inl rb)))) : mI l yX11_weightOf cX11_weightOf 3 (.int) rm_s_X11_weightOfX D G b0 f [.ref u0, .int u1, .int u2] (fun r f1 => iv r 0 9 ∧ TI G 9 τ f1 ∧ Fr [] τ f f1 ∧ (r = (rb (10 * u1.toInt + u2.toInt).toNat)) ∧ (r.toInt = (rb (10 * u1.toInt + u2.toInt).toNat).toInt)) := by
  refine met2 (own := RX11) (by decide) rfl (Nat.le_of_ble_eq_true rfl) ?_
  intro p e s m args below meth c ls Q hQ C hr hini hl h
  have hl : lv_has ls 3 [(0, .ref u0), (1, .int u1), (2, .int u2)] := hl
  obtain ⟨hx, hb, hml, hown, hts, hE0, hlk⟩ := id C
  have o := Fr.rf [] τ f
  refine lv_aload_n hx hb dX11_weightOf_0 rfl (lv_at hl 0 rfl) ?_
  refine t_getfd C h t hu0 (by decide) wf_60 (v := .ref bq) k_u0_6 fl_X11_17 dX11_weightOf_1 ?_
  refine lv_bipush (v := 10) hx hb dX11_weightOf_4 (by decide) ?_
  refine lv_iload_n hx hb dX11_weightOf_6 rfl (lv_at hl 1 rfl) ?_
  refine i_cmul hx hb dX11_weightOf_7 (k := 10) rfl hu1 (lo := 0) (hi := 70) (by decide) (fun z1 ez1 mz1 iz1 => ?_)
  refine lv_iload_n hx hb dX11_weightOf_8 rfl (lv_at hl 2 rfl) ?_
  refine i_add hx hb dX11_weightOf_9 iz1 hu2 (lo := 0) (hi := 79) (by decide) (fun z2 ez2 mz2 iz2 => ?_)
  refine e_bkld C h t hbq (by decide) wf_63 hRbq iz2 (by decide) dX11_weightOf_10 (fun z3 ez3 iz3 => ?_)
  have mz3 := congrArg Int32.toInt ez3
  exact u_iret C h hr hQ (⟨iz3, t, o, (by rw [ez3]; exact congrArg rb (by omega)), (by rw [ez3]; exact congrArg (fun z_ => (rb z_).toInt) (by omega))⟩) (Nat.le_of_ble_eq_true rfl) (Nat.le_of_ble_eq_true rfl) dX11_weightOf_11
abbrev rm_s_X11_refuseX : Room := { frames := 0, cells := 0, slots := 0, locals := 0 }
set_option maxRecDepth 100000 in
set_option maxHeartbeats 4000000 in
theorem s_X11_refuseX (l : Launch) (D : va_G) (G : Nat → Nat) (b0 : Nat) (τ : Nat → Nat) (f : hM) (t : TI G 9 τ f) (u0 : Nat) (hu0 : τ u0 = 60) (u1 : Int32) (hu1 : iv u1 0 3) (fq : Nat) (hfq : τ fq = 66) (k_u0_9 : atp f u0 (fd 9 (.ref fq))) (rr : Nat → Int32) (hRfq : atp f fq (eqc (.inl (G 1, 4, .inl rr)))) : mI l yX11_refuse cX11_refuse 2 (.int) rm_s_X11_refuseX D G b0 f [.ref u0, .int u1] (fun r f1 => iv r (-1) (-1) ∧ TI G 9 τ f1 ∧ Fr [66] τ f f1 ∧ (∃ rr1 : Nat → Int32, atp f1 fq (eqc (.inl (G 1, 4, .inl rr1))) ∧ (∀ k : Nat, rr1 k = if k = u1.toInt.toNat then rr k + 1 else rr k))) := by
  refine met2 (own := RX11) (by decide) rfl (Nat.le_of_ble_eq_true rfl) ?_
  intro p e s m args below meth c ls Q hQ C hr hini hl h
  have hl : lv_has ls 2 [(0, .ref u0), (1, .int u1)] := hl
  obtain ⟨hx, hb, hml, hown, hts, hE0, hlk⟩ := id C
  have o := Fr.rf [66] τ f
  refine lv_aload_n hx hb dX11_refuse_0 rfl (lv_at hl 0 rfl) ?_
  refine t_getfd C h t hu0 (by decide) wf_60 (v := .ref fq) k_u0_9 fl_X11_26 dX11_refuse_1 ?_
  refine lv_iload_n hx hb dX11_refuse_4 rfl (lv_at hl 1 rfl) ?_
  refine lv_dup2_11 hx hb dX11_refuse_5 rfl rfl ?_
  refine e_iald C h t hfq (by decide) wf_66 hRfq (iv_in hu1 (by decide)) dX11_refuse_6 (fun z1 ez1 iz1 => ?_)
  have mz1 := congrArg Int32.toInt ez1
  refine lv_iconst (v := 1) hx hb dX11_refuse_7 (by decide) ?_
  refine lv_iadd hx hb dX11_refuse_8 (i_top (iv_any _) (fun z2 ez2 iz2 => ?_))
  refine e_iast C h t o hfq (by decide) (by decide) wf_66 fw_66 hRfq (iv_in hu1 (by decide)) iz2 dX11_refuse_9 (fun R5 f3 erR5 H locs h tf3 of3 hq hn_ k4 => ?_)
  have k6 := atp.tg k_u0_9 hq hu0 (by decide)
  refine lv_iconst (v := -1) hx hb dX11_refuse_10 (by decide) ?_
  exact u_iret C h hr hQ (⟨⟨by decide, by decide⟩, tf3, of3, ⟨R5, k4, (fun k => by
      rw [erR5]; by_cases q_ : k = u1.toInt.toNat
      · rw [upd_at q_, if_pos q_, ez2, q_]; exact congrArg (fun z_ => z_ + 1) (by assumption)
      · rw [upd_off q_, if_neg q_])⟩⟩) (Nat.le_of_ble_eq_true rfl) (Nat.le_of_ble_eq_true rfl) dX11_refuse_11
abbrev rm_s_X11_keepsX : Room := { frames := 0, cells := 0, slots := 0, locals := 0 }
set_option maxRecDepth 100000 in
set_option maxHeartbeats 4000000 in
theorem s_X11_keepsX (l : Launch) (D : va_G) (G : Nat → Nat) (b0 : Nat) (τ : Nat → Nat) (f : hM) (t : TI G 9 τ f) (u0 : Nat) (hu0 : τ u0 = 60) (ac : Int32) (hac : iv ac 0 12) (k_u0_10 : atp f u0 (fd 10 (.int ac))) (bq : Nat) (hbq : τ bq = 63) (k_u0_6 : atp f u0 (fd 6 (.ref bq))) (kq : Nat) (hkq : τ kq = 65) (k_u0_8 : atp f u0 (fd 8 (.ref kq))) (rb : Nat → Int32) (hRbq : atp f bq (eqc (.inl (G 1, 81, .inl rb)))) (rk : Nat → Int32) (hRkq : atp f kq (eqc (.inl (G 1, 972, .inl rk)))) : mV l yX11_keeps cX11_keeps 2 rm_s_X11_keepsX D G b0 f [.ref u0] (fun f1 => TI G 9 τ f1 ∧ Fr [60, 65, 60011] τ f f1 ∧ (∃ ac1 : Int32, atp f1 u0 (fd 10 (.int ac1)) ∧ iv ac1 1 12 ∧ ((ac.toInt = 12 → ac1.toInt = 12) ∧ (ac.toInt ≠ 12 → ac1.toInt = ac.toInt + 1))) ∧ (∃ rk1 : Nat → Int32, atp f1 kq (eqc (.inl (G 1, 972, .inl rk1))) ∧ (∀ k : Nat, k < 972 → rk1 k = kp rk rb ac.toInt k))) := by
  refine met2 (own := RX11) (by decide) rfl (Nat.le_of_ble_eq_true rfl) ?_
  intro p e s m args below meth c ls Q hQ C hr hini hl h
  have hl : lv_has ls 2 [(0, .ref u0)] := hl
  obtain ⟨hx, hb, hml, hown, hts, hE0, hlk⟩ := id C
  have o := Fr.rf [60, 65, 60011] τ f
  have L52 : ∀ (n52 : Nat) (ls : Array Slot) (f_52 : hM) (H : Heap) (locs : List Loc) (v52_1 : Int32) (g52_u0_10 : Int32) (g52_kq_R : Nat → Int32), 81 - v52_1.toInt < (n52 : Int) → lv_has ls 2 [(0, .ref u0), (1, .int v52_1)] → hw D b0 s.heap f_52 H locs → TI G 9 τ f_52 → Fr [60, 65, 60011] τ f f_52 → iv v52_1 0 81 → iv g52_u0_10 0 11 → atp f_52 u0 (fd 10 (.int g52_u0_10)) → atp f_52 u0 (fd 6 (.ref bq)) → atp f_52 u0 (fd 8 (.ref kq)) → atp f_52 bq (eqc (.inl (G 1, 81, .inl rb))) → atp f_52 kq (eqc (.inl (G 1, 972, .inl g52_kq_R))) → (ac.toInt = 12 → g52_u0_10.toInt = 11) ∧ (ac.toInt ≠ 12 → g52_u0_10.toInt = ac.toInt) → (∀ k : Nat, g52_kq_R k = if 81 * g52_u0_10.toInt ≤ (k : Int) ∧ (k : Int) < 81 * g52_u0_10.toInt + v52_1.toInt then rb (k - 81 * Int.toNat (g52_u0_10.toInt)) else if ac.toInt = 12 ∧ k < 891 then rk (k + 81) else rk k) → W p l e rm_s_X11_keepsX s m args below meth c H locs 0 0 Q (F0 m 52 ls []) := by
    intro n52
    induction n52 with
    | zero => intro ls f_52 H locs v52_1 g52_u0_10 g52_kq_R hm52 hl h t_52 o_52 iv52_1 ig52_u0_10 k52_u0_10 k52_u0_6 k52_u0_8 k52_bq_R k52_kq_R hv52_0 hv52_1; exact absurd hm52 (by omega)
    | succ n52 ih52 =>
      intro ls f_52 H locs v52_1 g52_u0_10 g52_kq_R hm52 hl h t_52 o_52 iv52_1 ig52_u0_10 k52_u0_10 k52_u0_6 k52_u0_8 k52_bq_R k52_kq_R hv52_0 hv52_1
      refine lv_iload_n hx hb dX11_keeps_52 rfl (lv_at hl 1 rfl) ?_
      refine lv_bipush (v := 81) hx hb dX11_keeps_53 (by decide) ?_
      refine lv_icmp_ge (tgt := 84) hx hb dX11_keeps_55 (by decide) (fun c1 => ?_) (fun c1 => ?_)
      · have c2 : 81 ≤ v52_1.toInt := Int32.le_iff_toInt_le.mp c1
        have i3 : iv v52_1 81 81 := iv_Er c2 (iv_k (x := 81) (k := 81) rfl) iv52_1 (by decide)
        refine lv_aload_n hx hb dX11_keeps_84 rfl (lv_at hl 0 rfl) ?_
        refine lv_dup hx hb dX11_keeps_85 rfl ?_
        refine t_getfd C h t_52 hu0 (by decide) wf_60 (v := .int g52_u0_10) k52_u0_10 fl_X11_155 dX11_keeps_86 ?_
        refine lv_iconst (v := 1) hx hb dX11_keeps_89 (by decide) ?_
        refine i_addk hx hb dX11_keeps_90 ig52_u0_10 (k := 1) rfl (lo := 1) (hi := 12) (by decide) (fun z6 ez6 mz6 iz6 => ?_)
        refine t_put C h t_52 o_52 hu0 (by decide) (by decide) (by decide) wf_60 fw_60 (k := 10) rfl flw_X11_155 (Or.inr ⟨_, _, _, rfl, rfl⟩) (v := .int z6) rfl rfl ⟨_, rfl, (iv_w iz6 (by decide))⟩ dX11_keeps_91 (fun f7 H locs h tf7 of7 hq ha_ hn_ hk_ => ?_)
        have k9 := hk_ 6 _ (by decide) k52_u0_6
        have k10 := hk_ 8 _ (by decide) k52_u0_8
        have k11 := atp.tg k52_bq_R hq hbq (by decide)
        have k12 := atp.tg k52_kq_R hq hkq (by decide)
        have k13 := ha_
        exact u_vret C h hr hQ (⟨tf7, of7, ⟨z6, k13, iz6, (by omega)⟩, ⟨g52_kq_R, k12, (fun k hk => by rw [hv52_1 k]; unfold kp; (repeat' split) <;> first | rfl | (exfalso; omega) | (exact congrArg _ (by omega)))⟩⟩) (Nat.le_of_ble_eq_true rfl) (Nat.le_of_ble_eq_true rfl) dX11_keeps_94
      · have c4 : v52_1.toInt < 81 := Int32.lt_iff_toInt_lt.mp (iv_nle c1)
        have i5 : iv v52_1 0 80 := iv_Ll c4 iv52_1 (iv_k (x := 81) (k := 81) rfl) (by decide)
        refine lv_aload_n hx hb dX11_keeps_58 rfl (lv_at hl 0 rfl) ?_
        refine t_getfd C h t_52 hu0 (by decide) wf_60 (v := .ref kq) k52_u0_8 fl_X11_23 dX11_keeps_59 ?_
        refine lv_bipush (v := 81) hx hb dX11_keeps_62 (by decide) ?_
        refine lv_aload_n hx hb dX11_keeps_64 rfl (lv_at hl 0 rfl) ?_
        refine t_getfd C h t_52 hu0 (by decide) wf_60 (v := .int g52_u0_10) k52_u0_10 fl_X11_155 dX11_keeps_65 ?_
        refine i_cmul hx hb dX11_keeps_68 (k := 81) rfl ig52_u0_10 (lo := 0) (hi := 891) (by decide) (fun z14 ez14 mz14 iz14 => ?_)
        refine lv_iload_n hx hb dX11_keeps_69 rfl (lv_at hl 1 rfl) ?_
        refine i_add hx hb dX11_keeps_70 iz14 i5 (lo := 0) (hi := 971) (by decide) (fun z15 ez15 mz15 iz15 => ?_)
        refine lv_aload_n hx hb dX11_keeps_71 rfl (lv_at hl 0 rfl) ?_
        refine t_getfd C h t_52 hu0 (by decide) wf_60 (v := .ref bq) k52_u0_6 fl_X11_17 dX11_keeps_72 ?_
        refine lv_iload_n hx hb dX11_keeps_75 rfl (lv_at hl 1 rfl) ?_
        refine e_bkA C h t_52 hbq (by decide) wf_63 k52_bq_R i5 (by decide) (hi := 9) (by decide) dX11_keeps_76 (fun z16 ez16 iz16 => ?_)
        have mz16 := congrArg Int32.toInt ez16
        refine e_iast C h t_52 o_52 hkq (by decide) (by decide) wf_65 fw_65 k52_kq_R (iv_in iz15 (by decide)) iz16 dX11_keeps_77 (fun R19 f17 erR19 H locs h tf17 of17 hq hn_ k18 => ?_)
        have k20 := atp.tg k52_u0_10 hq hu0 (by decide)
        have k21 := atp.tg k52_u0_6 hq hu0 (by decide)
        have k22 := atp.tg k52_u0_8 hq hu0 (by decide)
        have k23 := atp.tg k52_bq_R hq hbq (by decide)
        refine i_inc hx hb dX11_keeps_78 hl (k := 1) rfl i5 rfl (lo := 1) (hi := 81) (by decide) (by decide) (lv' := fun v => [(1, .int v), (0, .ref u0)]) (fun _ => rfl) (fun z25 ls ez25 mz25 iz25 hl => ?_)
        refine lv_goto (tgt := 52) hx hb dX11_keeps_81 (by decide) ?_
        exact ih52 ls f17 H locs z25 g52_u0_10 R19 (show 81 - z25.toInt < _ by omega) (lv_cons hl 1 rfl (lv_cons hl 0 rfl (lv_nil hl))) h tf17 of17 (iv_w iz25 (by decide)) ig52_u0_10 k20 k21 k22 k23 k18 (show (ac.toInt = 12 → g52_u0_10.toInt = 11) ∧ (ac.toInt ≠ 12 → g52_u0_10.toInt = ac.toInt) by omega) (show ∀ k : Nat, R19 k = if 81 * g52_u0_10.toInt ≤ (k : Int) ∧ (k : Int) < 81 * g52_u0_10.toInt + z25.toInt then rb (k - 81 * Int.toNat (g52_u0_10.toInt)) else if ac.toInt = 12 ∧ k < 891 then rk (k + 81) else rk k from (by
            intro k; rw [erR19]; by_cases q_ : k = z15.toInt.toNat
            · rw [upd_at q_, ez16]; (repeat' split) <;> first | rfl | (exfalso; omega) | (exact congrArg _ (by omega))
            · rw [upd_off q_, hv52_1 k]; (repeat' split) <;> first | rfl | (exfalso; omega) | (exact congrArg _ (by omega))))
  have L12 : ∀ (n12 : Nat) (ls : Array Slot) (f_12 : hM) (H : Heap) (locs : List Loc) (v12_1 : Int32) (g12_kq_R : Nat → Int32), 972 - v12_1.toInt < (n12 : Int) → lv_has ls 2 [(0, .ref u0), (1, .int v12_1)] → hw D b0 s.heap f_12 H locs → TI G 9 τ f_12 → Fr [60, 65, 60011] τ f f_12 → iv v12_1 81 972 → iv ac 12 12 → atp f_12 u0 (fd 10 (.int ac)) → atp f_12 u0 (fd 6 (.ref bq)) → atp f_12 u0 (fd 8 (.ref kq)) → atp f_12 bq (eqc (.inl (G 1, 81, .inl rb))) → atp f_12 kq (eqc (.inl (G 1, 972, .inl g12_kq_R))) → ac.toInt = 12 → (∀ k : Nat, g12_kq_R k = if (k : Int) + 81 < v12_1.toInt then rk (k + 81) else rk k) → W p l e rm_s_X11_keepsX s m args below meth c H locs 0 0 Q (F0 m 12 ls []) := by
    intro n12
    induction n12 with
    | zero => intro ls f_12 H locs v12_1 g12_kq_R hm12 hl h t_12 o_12 iv12_1 jg12_u0_10 k12_u0_10 k12_u0_6 k12_u0_8 k12_bq_R k12_kq_R hv12_0 hv12_1; exact absurd hm12 (by omega)
    | succ n12 ih12 =>
      intro ls f_12 H locs v12_1 g12_kq_R hm12 hl h t_12 o_12 iv12_1 jg12_u0_10 k12_u0_10 k12_u0_6 k12_u0_8 k12_bq_R k12_kq_R hv12_0 hv12_1
      refine lv_iload_n hx hb dX11_keeps_12 rfl (lv_at hl 1 rfl) ?_
      refine lv_sipush (v := 972) hx hb dX11_keeps_13 (by decide) ?_
      refine lv_icmp_ge (tgt := 40) hx hb dX11_keeps_16 (by decide) (fun c26 => ?_) (fun c26 => ?_)
      · have c27 : 972 ≤ v12_1.toInt := Int32.le_iff_toInt_le.mp c26
        have i28 : iv v12_1 972 972 := iv_Er c27 (iv_k (x := 972) (k := 972) rfl) iv12_1 (by decide)
        refine lv_aload_n hx hb dX11_keeps_40 rfl (lv_at hl 0 rfl) ?_
        refine lv_dup hx hb dX11_keeps_41 rfl ?_
        refine t_getfd C h t_12 hu0 (by decide) wf_60 (v := .int ac) k12_u0_10 fl_X11_155 dX11_keeps_42 ?_
        refine lv_iconst (v := 1) hx hb dX11_keeps_45 (by decide) ?_
        refine i_subk hx hb dX11_keeps_46 jg12_u0_10 (k := 1) rfl (lo := 11) (hi := 11) (by decide) (fun z31 ez31 mz31 iz31 => ?_)
        refine t_put C h t_12 o_12 hu0 (by decide) (by decide) (by decide) wf_60 fw_60 (k := 10) rfl flw_X11_155 (Or.inr ⟨_, _, _, rfl, rfl⟩) (v := .int z31) rfl rfl ⟨_, rfl, (iv_w iz31 (by decide))⟩ dX11_keeps_47 (fun f32 H locs h tf32 of32 hq ha_ hn_ hk_ => ?_)
        have k34 := hk_ 6 _ (by decide) k12_u0_6
        have k35 := hk_ 8 _ (by decide) k12_u0_8
        have k36 := atp.tg k12_bq_R hq hbq (by decide)
        have k37 := atp.tg k12_kq_R hq hkq (by decide)
        have k38 := ha_
        refine lv_iconst (v := 0) hx hb dX11_keeps_50 (by decide) ?_
        refine lv_istore_n (lv' := [(1, .int 0), (0, .ref u0)]) hx hb dX11_keeps_51 rfl hl (by decide) rfl (fun ls hl => ?_)
        exact L52 82 ls f32 H locs 0 z31 g12_kq_R (by decide) (lv_cons hl 1 rfl (lv_cons hl 0 rfl (lv_nil hl))) h tf32 of32 ⟨by decide, by decide⟩ (iv_w iz31 (by decide)) k38 k34 k35 k36 k37 (show (ac.toInt = 12 → z31.toInt = 11) ∧ (ac.toInt ≠ 12 → z31.toInt = ac.toInt) by omega) (show ∀ k : Nat, g12_kq_R k = if 81 * z31.toInt ≤ (k : Int) ∧ (k : Int) < 81 * z31.toInt + 0 then rb (k - 81 * Int.toNat (z31.toInt)) else if ac.toInt = 12 ∧ k < 891 then rk (k + 81) else rk k from (by
            intro k; rw [hv12_1 k]; (repeat' split) <;> first | rfl | (exfalso; omega) | (exact congrArg _ (by omega))))
      · have c29 : v12_1.toInt < 972 := Int32.lt_iff_toInt_lt.mp (iv_nle c26)
        have i30 : iv v12_1 81 971 := iv_Ll c29 iv12_1 (iv_k (x := 972) (k := 972) rfl) (by decide)
        refine lv_aload_n hx hb dX11_keeps_19 rfl (lv_at hl 0 rfl) ?_
        refine t_getfd C h t_12 hu0 (by decide) wf_60 (v := .ref kq) k12_u0_8 fl_X11_23 dX11_keeps_20 ?_
        refine lv_iload_n hx hb dX11_keeps_23 rfl (lv_at hl 1 rfl) ?_
        refine lv_bipush (v := 81) hx hb dX11_keeps_24 (by decide) ?_
        refine i_subk hx hb dX11_keeps_26 i30 (k := 81) rfl (lo := 0) (hi := 890) (by decide) (fun z39 ez39 mz39 iz39 => ?_)
        refine lv_aload_n hx hb dX11_keeps_27 rfl (lv_at hl 0 rfl) ?_
        refine t_getfd C h t_12 hu0 (by decide) wf_60 (v := .ref kq) k12_u0_8 fl_X11_23 dX11_keeps_28 ?_
        refine lv_iload_n hx hb dX11_keeps_31 rfl (lv_at hl 1 rfl) ?_
        refine e_iald C h t_12 hkq (by decide) wf_65 k12_kq_R (iv_in i30 (by decide)) dX11_keeps_32 (fun z40 ez40 iz40 => ?_)
        have mz40 := congrArg Int32.toInt ez40
        refine e_iast C h t_12 o_12 hkq (by decide) (by decide) wf_65 fw_65 k12_kq_R (iv_in iz39 (by decide)) iz40 dX11_keeps_33 (fun R43 f41 erR43 H locs h tf41 of41 hq hn_ k42 => ?_)
        have k44 := atp.tg k12_u0_10 hq hu0 (by decide)
        have k45 := atp.tg k12_u0_6 hq hu0 (by decide)
        have k46 := atp.tg k12_u0_8 hq hu0 (by decide)
        have k47 := atp.tg k12_bq_R hq hbq (by decide)
        refine i_inc hx hb dX11_keeps_34 hl (k := 1) rfl i30 rfl (lo := 82) (hi := 972) (by decide) (by decide) (lv' := fun v => [(1, .int v), (0, .ref u0)]) (fun _ => rfl) (fun z49 ls ez49 mz49 iz49 hl => ?_)
        refine lv_goto (tgt := 12) hx hb dX11_keeps_37 (by decide) ?_
        exact ih12 ls f41 H locs z49 R43 (show 972 - z49.toInt < _ by omega) (lv_cons hl 1 rfl (lv_cons hl 0 rfl (lv_nil hl))) h tf41 of41 (iv_w iz49 (by decide)) jg12_u0_10 k44 k45 k46 k47 k42 (show ac.toInt = 12 by omega) (show ∀ k : Nat, R43 k = if (k : Int) + 81 < z49.toInt then rk (k + 81) else rk k from (by
            intro k; rw [erR43]; by_cases q_ : k = z39.toInt.toNat
            · rw [upd_at q_, ez40, hv12_1 _]; (repeat' split) <;> first | rfl | (exfalso; omega) | (exact congrArg _ (by omega))
            · rw [upd_off q_, hv12_1 k]; (repeat' split) <;> first | rfl | (exfalso; omega) | (exact congrArg _ (by omega))))
  refine lv_aload_n hx hb dX11_keeps_0 rfl (lv_at hl 0 rfl) ?_
  refine t_getfd C h t hu0 (by decide) wf_60 (v := .int ac) k_u0_10 fl_X11_155 dX11_keeps_1 ?_
  refine lv_bipush (v := 12) hx hb dX11_keeps_4 (by decide) ?_
  refine lv_icmp_ne (tgt := 50) hx hb dX11_keeps_6 (by decide) (fun c50 => ?_) (fun c50 => ?_)
  · have c51 : ac.toInt ≠ 12 := fun z_ => c50 (Int32.toInt_inj.mp z_)
    have i52 : iv ac 0 11 := iv_Nh c51 hac (by decide)
    refine lv_iconst (v := 0) hx hb dX11_keeps_50 (by decide) ?_
    refine lv_istore_n (lv' := [(1, .int 0), (0, .ref u0)]) hx hb dX11_keeps_51 rfl hl (by decide) rfl (fun ls hl => ?_)
    exact L52 82 ls f s.heap [] 0 ac rk (by decide) (lv_cons hl 1 rfl (lv_cons hl 0 rfl (lv_nil hl))) h t o ⟨by decide, by decide⟩ i52 k_u0_10 k_u0_6 k_u0_8 hRbq hRkq (show (ac.toInt = 12 → ac.toInt = 11) ∧ (ac.toInt ≠ 12 → ac.toInt = ac.toInt) by omega) (show ∀ k : Nat, rk k = if 81 * ac.toInt ≤ (k : Int) ∧ (k : Int) < 81 * ac.toInt + 0 then rb (k - 81 * Int.toNat (ac.toInt)) else if ac.toInt = 12 ∧ k < 891 then rk (k + 81) else rk k from (by
        intro k; (repeat' split) <;> first | rfl | (exfalso; omega) | (exact congrArg _ (by omega))))
  · have c53 : ac.toInt = 12 := congrArg Int32.toInt c50
    have i54 : iv ac 12 12 := iv_Q c53 hac (iv_k (x := 12) (k := 12) rfl) (by decide)
    refine lv_bipush (v := 81) hx hb dX11_keeps_9 (by decide) ?_
    refine lv_istore_n (lv' := [(1, .int 81), (0, .ref u0)]) hx hb dX11_keeps_11 rfl hl (by decide) rfl (fun ls hl => ?_)
    exact L12 892 ls f s.heap [] 81 rk (by decide) (lv_cons hl 1 rfl (lv_cons hl 0 rfl (lv_nil hl))) h t o ⟨by decide, by decide⟩ i54 k_u0_10 k_u0_6 k_u0_8 hRbq hRkq (show ac.toInt = 12 by omega) (show ∀ k : Nat, rk k = if (k : Int) + 81 < 81 then rk (k + 81) else rk k from (by
        intro k; (repeat' split) <;> first | rfl | (exfalso; omega) | (exact congrArg _ (by omega))))
abbrev rm_s_X11_comesX : Room := { frames := 1, cells := 0, slots := 0, locals := 21 }
set_option maxRecDepth 100000 in
set_option maxHeartbeats 4000000 in
theorem s_X11_comesX (l : Launch) (D : va_G) (G : Nat → Nat) (b0 : Nat) (τ : Nat → Nat) (f : hM) (t : TI G 9 τ f) (u0 : Nat) (hu0 : τ u0 = 60) (ac : Int32) (hac : iv ac 0 12) (k_u0_10 : atp f u0 (fd 10 (.int ac))) (bq : Nat) (hbq : τ bq = 63) (k_u0_6 : atp f u0 (fd 6 (.ref bq))) (kq : Nat) (hkq : τ kq = 65) (k_u0_8 : atp f u0 (fd 8 (.ref kq))) (dq : Nat) (hdq : τ dq = 62) (k_u0_5 : atp f u0 (fd 5 (.ref dq))) (rb : Nat → Int32) (hRbq : atp f bq (eqc (.inl (G 1, 81, .inl rb)))) (rk : Nat → Int32) (hRkq : atp f kq (eqc (.inl (G 1, 972, .inl rk)))) (rd : Nat → Int32) (hRdq : atp f dq (eqc (.inl (G 1, 10, .inl rd)))) (hd : ∀ k : Nat, k < 10 → iv (rd k) 0 9) (hr0 : (rb 80).toInt ≤ 7) : mI l yX11_comes cX11_comes 2 (.int) rm_s_X11_comesX D G b0 f [.ref u0] (fun r f1 => iv r (-1) 7 ∧ TI G 9 τ f1 ∧ Fr [60, 63, 65, 60011] τ f f1 ∧ (r.toInt = (rb 80).toInt) ∧ (∃ ac1 : Int32, atp f1 u0 (fd 10 (.int ac1)) ∧ iv ac1 1 12 ∧ ((ac.toInt = 12 → ac1.toInt = 12) ∧ (ac.toInt ≠ 12 → ac1.toInt = ac.toInt + 1))) ∧ (∃ rb1 : Nat → Int32, atp f1 bq (eqc (.inl (G 1, 81, .inl rb1))) ∧ (∀ k : Nat, k < 81 → rb1 k = cm rb rd k)) ∧ (∃ rk1 : Nat → Int32, atp f1 kq (eqc (.inl (G 1, 972, .inl rk1))) ∧ (∀ k : Nat, k < 972 → rk1 k = kp rk rb ac.toInt k))) := by
  refine met2 (own := RX11) (by decide) rfl (Nat.le_of_ble_eq_true rfl) ?_
  intro p e s m args below meth c ls Q hQ C hr hini hl h
  have hl : lv_has ls 2 [(0, .ref u0)] := hl
  obtain ⟨hx, hb, hml, hown, hts, hE0, hlk⟩ := id C
  have o := Fr.rf [60, 63, 65, 60011] τ f
  have L6 : ∀ (n6 : Nat) (ls : Array Slot) (f_6 : hM) (H : Heap) (locs : List Loc) (v6_1 : Int32) (g6_bq_R : Nat → Int32) (g6_u0_10 : Int32) (g6_kq_R : Nat → Int32), 10 - v6_1.toInt < (n6 : Int) → lv_has ls 2 [(0, .ref u0), (1, .int v6_1)] → hw D b0 s.heap f_6 H locs → TI G 9 τ f_6 → Fr [60, 63, 65, 60011] τ f f_6 → iv v6_1 0 10 → iv g6_u0_10 1 12 → atp f_6 u0 (fd 6 (.ref bq)) → atp f_6 u0 (fd 8 (.ref kq)) → atp f_6 u0 (fd 5 (.ref dq)) → atp f_6 bq (eqc (.inl (G 1, 81, .inl g6_bq_R))) → atp f_6 dq (eqc (.inl (G 1, 10, .inl rd))) → atp f_6 u0 (fd 10 (.int g6_u0_10)) → atp f_6 kq (eqc (.inl (G 1, 972, .inl g6_kq_R))) → ((g6_bq_R 80).toInt = (rb 80).toInt) → ((ac.toInt = 12 → g6_u0_10.toInt = 12) ∧ (ac.toInt ≠ 12 → g6_u0_10.toInt = ac.toInt + 1)) → (∀ k : Nat, k < 972 → g6_kq_R k = kp rk rb ac.toInt k) → (∀ k : Nat, g6_bq_R k = if 10 * (rb 80).toInt ≤ (k : Int) ∧ (k : Int) < 10 * (rb 80).toInt + v6_1.toInt then rd (k - 10 * (rb 80).toInt.toNat) else rb k) → W p l e rm_s_X11_comesX s m args below meth c H locs 0 0 Q (F0 m 6 ls []) := by
    intro n6
    induction n6 with
    | zero => intro ls f_6 H locs v6_1 g6_bq_R g6_u0_10 g6_kq_R hm6 hl h t_6 o_6 iv6_1 ig6_u0_10 k6_u0_6 k6_u0_8 k6_u0_5 k6_bq_R k6_dq_R k6_u0_10 k6_kq_R hv6_0 hv6_1 hv6_2 hv6_3; exact absurd hm6 (by omega)
    | succ n6 ih6 =>
      intro ls f_6 H locs v6_1 g6_bq_R g6_u0_10 g6_kq_R hm6 hl h t_6 o_6 iv6_1 ig6_u0_10 k6_u0_6 k6_u0_8 k6_u0_5 k6_bq_R k6_dq_R k6_u0_10 k6_kq_R hv6_0 hv6_1 hv6_2 hv6_3
      refine lv_iload_n hx hb dX11_comes_6 rfl (lv_at hl 1 rfl) ?_
      refine lv_bipush (v := 10) hx hb dX11_comes_7 (by decide) ?_
      refine lv_icmp_ge (tgt := 41) hx hb dX11_comes_9 (by decide) (fun c1 => ?_) (fun c1 => ?_)
      · have c2 : 10 ≤ v6_1.toInt := Int32.le_iff_toInt_le.mp c1
        have i3 : iv v6_1 10 10 := iv_Er c2 (iv_k (x := 10) (k := 10) rfl) iv6_1 (by decide)
        refine lv_aload_n hx hb dX11_comes_41 rfl (lv_at hl 0 rfl) ?_
        refine t_getfd C h t_6 hu0 (by decide) wf_60 (v := .ref bq) k6_u0_6 fl_X11_17 dX11_comes_42 ?_
        refine lv_bipush (v := 80) hx hb dX11_comes_45 (by decide) ?_
        refine lv_dup2_11 hx hb dX11_comes_47 rfl rfl ?_
        refine e_bk80 C h t_6 hbq (by decide) wf_63 k6_bq_R dX11_comes_48 (fun z6 ez6 iz6 => ?_)
        have mz6 := congrArg Int32.toInt ez6
        refine lv_iconst (v := 1) hx hb dX11_comes_49 (by decide) ?_
        refine i_addk hx hb dX11_comes_50 iz6 (k := 1) rfl (lo := 1) (hi := 9) (by decide) (fun z7 ez7 mz7 iz7 => ?_)
        refine e_bkst C h t_6 o_6 hbq (by decide) (by decide) wf_63 fw_63 k6_bq_R (Or.inr ⟨rfl, (show iv z7 0 8 from by omega)⟩) dX11_comes_51 (fun R10 f8 erR10 H locs h tf8 of8 hq hn_ k9 => ?_)
        have erR10 : R10 = upd g6_bq_R 80 z7 := erR10
        have k11 := atp.tg k6_u0_6 hq hu0 (by decide)
        have k12 := atp.tg k6_u0_8 hq hu0 (by decide)
        have k13 := atp.tg k6_u0_5 hq hu0 (by decide)
        have k15 := atp.tg k6_dq_R hq hdq (by decide)
        have k16 := atp.tg k6_u0_10 hq hu0 (by decide)
        have k17 := atp.tg k6_kq_R hq hkq (by decide)
        refine lv_aload_n hx hb dX11_comes_52 rfl (lv_at hl 0 rfl) ?_
        refine t_getfd C h tf8 hu0 (by decide) wf_60 (v := .ref bq) k11 fl_X11_17 dX11_comes_53 ?_
        refine lv_bipush (v := 80) hx hb dX11_comes_56 (by decide) ?_
        refine e_bk80 C h tf8 hbq (by decide) wf_63 k9 dX11_comes_58 (fun z18 ez18 iz18 => ?_)
        have mz18 := congrArg Int32.toInt ez18
        refine lv_iconst (v := 1) hx hb dX11_comes_59 (by decide) ?_
        refine i_subk hx hb dX11_comes_60 iz18 (k := 1) rfl (lo := (-1)) (hi := 7) (by decide) (fun z19 ez19 mz19 iz19 => ?_)
        exact u_iret C h hr hQ (⟨iz19, tf8, of8, (by have h_ : (R10 80).toInt = z7.toInt := (by rw [erR10, upd_at rfl]); omega), ⟨g6_u0_10, k16, ig6_u0_10, (by omega)⟩, ⟨R10, k9, (fun k hk => by
            rw [erR10]; unfold cm; by_cases q_ : k = 80
            · rw [upd_at q_, if_pos q_]; exact toInt_add1 (by omega)
            · rw [upd_off q_, if_neg q_, hv6_3 k]; (repeat' split) <;> first | rfl | (exfalso; omega) | (exact congrArg _ (by omega)))⟩, ⟨g6_kq_R, k17, hv6_2⟩⟩) (Nat.le_of_ble_eq_true rfl) (Nat.le_of_ble_eq_true rfl) dX11_comes_61
      · have c4 : v6_1.toInt < 10 := Int32.lt_iff_toInt_lt.mp (iv_nle c1)
        have i5 : iv v6_1 0 9 := iv_Ll c4 iv6_1 (iv_k (x := 10) (k := 10) rfl) (by decide)
        refine lv_aload_n hx hb dX11_comes_12 rfl (lv_at hl 0 rfl) ?_
        refine t_getfd C h t_6 hu0 (by decide) wf_60 (v := .ref bq) k6_u0_6 fl_X11_17 dX11_comes_13 ?_
        refine lv_bipush (v := 10) hx hb dX11_comes_16 (by decide) ?_
        refine lv_aload_n hx hb dX11_comes_18 rfl (lv_at hl 0 rfl) ?_
        refine t_getfd C h t_6 hu0 (by decide) wf_60 (v := .ref bq) k6_u0_6 fl_X11_17 dX11_comes_19 ?_
        refine lv_bipush (v := 80) hx hb dX11_comes_22 (by decide) ?_
        refine e_bk80 C h t_6 hbq (by decide) wf_63 k6_bq_R dX11_comes_24 (fun z20 ez20 iz20 => ?_)
        have mz20 := congrArg Int32.toInt ez20
        refine i_cmul hx hb dX11_comes_25 (k := 10) rfl iz20 (lo := 0) (hi := 80) (by decide) (fun z21 ez21 mz21 iz21 => ?_)
        refine lv_iload_n hx hb dX11_comes_26 rfl (lv_at hl 1 rfl) ?_
        refine i_add hx hb dX11_comes_27 iz21 i5 (lo := 0) (hi := 89) (by decide) (fun z22 ez22 mz22 iz22 => ?_)
        refine lv_aload_n hx hb dX11_comes_28 rfl (lv_at hl 0 rfl) ?_
        refine t_getfd C h t_6 hu0 (by decide) wf_60 (v := .ref dq) k6_u0_5 fl_X11_13 dX11_comes_29 ?_
        refine lv_iload_n hx hb dX11_comes_32 rfl (lv_at hl 1 rfl) ?_
        refine e_iald C h t_6 hdq (by decide) wf_62 k6_dq_R (iv_in i5 (by decide)) dX11_comes_33 (fun z23 ez23 iz23 => ?_)
        have mz23 := congrArg Int32.toInt ez23
        have i24 : iv z23 0 9 := by rw [ez23]; exact hd _ (by omega)
        refine e_bkst C h t_6 o_6 hbq (by decide) (by decide) wf_63 fw_63 k6_bq_R (bk_or (show iv z22 0 80 from by omega) (by omega) ⟨i24, by omega⟩) dX11_comes_34 (fun R27 f25 erR27 H locs h tf25 of25 hq hn_ k26 => ?_)
        have k28 := atp.tg k6_u0_6 hq hu0 (by decide)
        have k29 := atp.tg k6_u0_8 hq hu0 (by decide)
        have k30 := atp.tg k6_u0_5 hq hu0 (by decide)
        have k32 := atp.tg k6_dq_R hq hdq (by decide)
        have k33 := atp.tg k6_u0_10 hq hu0 (by decide)
        have k34 := atp.tg k6_kq_R hq hkq (by decide)
        refine i_inc hx hb dX11_comes_35 hl (k := 1) rfl i5 rfl (lo := 1) (hi := 10) (by decide) (by decide) (lv' := fun v => [(1, .int v), (0, .ref u0)]) (fun _ => rfl) (fun z35 ls ez35 mz35 iz35 hl => ?_)
        refine lv_goto (tgt := 6) hx hb dX11_comes_38 (by decide) ?_
        exact ih6 ls f25 H locs z35 R27 g6_u0_10 g6_kq_R (show 10 - z35.toInt < _ by omega) (lv_cons hl 1 rfl (lv_cons hl 0 rfl (lv_nil hl))) h tf25 of25 (iv_w iz35 (by decide)) ig6_u0_10 k28 k29 k30 k26 k32 k33 k34 (show (R27 80).toInt = (rb 80).toInt from (by rw [erR27, upd_off (by omega)]; exact hv6_0)) (show ((ac.toInt = 12 → g6_u0_10.toInt = 12) ∧ (ac.toInt ≠ 12 → g6_u0_10.toInt = ac.toInt + 1)) by omega) (show ∀ k : Nat, k < 972 → g6_kq_R k = kp rk rb ac.toInt k from hv6_2) (show ∀ k : Nat, R27 k = if 10 * (rb 80).toInt ≤ (k : Int) ∧ (k : Int) < 10 * (rb 80).toInt + z35.toInt then rd (k - 10 * (rb 80).toInt.toNat) else rb k from (by
            intro k; rw [erR27]; by_cases q_ : k = z22.toInt.toNat
            · rw [upd_at q_, ez23]; (repeat' split) <;> first | rfl | (exfalso; omega) | (exact congrArg _ (by omega))
            · rw [upd_off q_, hv6_3 k]; (repeat' split) <;> first | rfl | (exfalso; omega) | (exact congrArg _ (by omega))))
  refine lv_aload_n hx hb dX11_comes_0 rfl (lv_at hl 0 rfl) ?_
  obtain ⟨_, r36⟩ := t_rec t hu0 (by decide) wf_60
  refine k_v (r_V C h hl (As := []) (rest := []) (s_X11_keepsX l D G b0 τ f t u0 hu0 ac hac k_u0_10 bq hbq k_u0_6 kq hkq k_u0_8 rb hRbq rk hRkq) r36 (Cn := RX11) (T := TX11) (N := 32) rfl rfl mk_X11_keeps w_1612 w_1614 w_50 w_1615 ⟨Nat.le_of_ble_eq_true rfl, Nat.le_of_ble_eq_true rfl⟩ rfl (Nat.le_of_ble_eq_true rfl) ⟨Nat.le_of_ble_eq_true rfl, Nat.le_of_ble_eq_true rfl⟩ rfl dX11_comes_1) h (fun f38 H locs p39 h => ?_)
  obtain ⟨tf38, ogf38, ⟨ac1_f38, kpu0_10f38, ipu0_10f38, rpu0_10f38⟩, ⟨rk1_f38, kRkqf38, pRkqf38⟩⟩ := p39
  have of38 : Fr [60, 63, 65, 60011] τ f f38 := Fr.tr o ogf38 (by decide) (by decide)
  have k40 := atp.fk k_u0_6 ogf38 hu0 (by decide) (by decide)
  have k41 := atp.fk k_u0_8 ogf38 hu0 (by decide) (by decide)
  have k42 := atp.fk k_u0_5 ogf38 hu0 (by decide) (by decide)
  have k43 := atp.fr hRbq ogf38 hbq (by decide)
  have k44 := atp.fr hRdq ogf38 hdq (by decide)
  refine lv_iconst (v := 0) hx hb dX11_comes_4 (by decide) ?_
  refine lv_istore_n (lv' := [(1, .int 0), (0, .ref u0)]) hx hb dX11_comes_5 rfl hl (by decide) rfl (fun ls hl => ?_)
  exact L6 11 ls f38 H locs 0 rb ac1_f38 rk1_f38 (by decide) (lv_cons hl 1 rfl (lv_cons hl 0 rfl (lv_nil hl))) h tf38 of38 ⟨by decide, by decide⟩ ipu0_10f38 k40 k41 k42 k43 k44 kpu0_10f38 kRkqf38 (show (rb 80).toInt = (rb 80).toInt from rfl) (show ((ac.toInt = 12 → ac1_f38.toInt = 12) ∧ (ac.toInt ≠ 12 → ac1_f38.toInt = ac.toInt + 1)) by omega) (show ∀ k : Nat, k < 972 → rk1_f38 k = kp rk rb ac.toInt k from pRkqf38) (show ∀ k : Nat, rb k = if 10 * (rb 80).toInt ≤ (k : Int) ∧ (k : Int) < 10 * (rb 80).toInt + 0 then rd (k - 10 * (rb 80).toInt.toNat) else rb k from (by
      intro k; (repeat' split) <;> first | rfl | (exfalso; omega) | (exact congrArg _ (by omega))))
abbrev rm_s_X11_dropX : Room := { frames := 2, cells := 0, slots := 0, locals := 46 }
set_option maxRecDepth 100000 in
set_option maxHeartbeats 4000000 in
theorem s_X11_dropX (l : Launch) (D : va_G) (G : Nat → Nat) (b0 : Nat) (τ : Nat → Nat) (f : hM) (t : TI G 9 τ f) (u0 : Nat) (hu0 : τ u0 = 60) (u1 : Int32) (hu1 : iv u1 (-2147483648) 2147483647) (ac : Int32) (hac : iv ac 0 12) (k_u0_10 : atp f u0 (fd 10 (.int ac))) (bq : Nat) (hbq : τ bq = 63) (k_u0_6 : atp f u0 (fd 6 (.ref bq))) (kq : Nat) (hkq : τ kq = 65) (k_u0_8 : atp f u0 (fd 8 (.ref kq))) (fq : Nat) (hfq : τ fq = 66) (k_u0_9 : atp f u0 (fd 9 (.ref fq))) (rb : Nat → Int32) (hRbq : atp f bq (eqc (.inl (G 1, 81, .inl rb)))) (rk : Nat → Int32) (hRkq : atp f kq (eqc (.inl (G 1, 972, .inl rk)))) (rr : Nat → Int32) (hRfq : atp f fq (eqc (.inl (G 1, 4, .inl rr)))) : mI l yX11_drop cX11_drop 3 (.int) rm_s_X11_dropX D G b0 f [.ref u0, .int u1] (fun r f1 => iv r (-1) 8 ∧ TI G 9 τ f1 ∧ Fr [60, 63, 65, 66, 60001, 60011] τ f f1 ∧ ((((0 ≤ u1.toInt ∧ u1.toInt < (rb 80).toInt)) → r.toInt = (rb 80).toInt - 1) ∧ (¬ ((0 ≤ u1.toInt ∧ u1.toInt < (rb 80).toInt)) → r.toInt = -1)) ∧ (∃ ac1 : Int32, atp f1 u0 (fd 10 (.int ac1)) ∧ iv ac1 0 12 ∧ (((0 ≤ u1.toInt ∧ u1.toInt < (rb 80).toInt)) → ((ac.toInt = 12 → ac1.toInt = 12) ∧ (ac.toInt ≠ 12 → ac1.toInt = ac.toInt + 1))) ∧ (¬ ((0 ≤ u1.toInt ∧ u1.toInt < (rb 80).toInt)) → ac1.toInt = ac.toInt)) ∧ (∃ rb1 : Nat → Int32, atp f1 bq (eqc (.inl (G 1, 81, .inl rb1))) ∧ (∀ k : Nat, k < 81 → rb1 k = if (0 ≤ u1.toInt ∧ u1.toInt < (rb 80).toInt) then dr rb u1.toInt k else rb k)) ∧ (∃ rk1 : Nat → Int32, atp f1 kq (eqc (.inl (G 1, 972, .inl rk1))) ∧ (∀ k : Nat, k < 972 → rk1 k = if (0 ≤ u1.toInt ∧ u1.toInt < (rb 80).toInt) then kp rk rb ac.toInt k else rk k)) ∧ (∃ rr1 : Nat → Int32, atp f1 fq (eqc (.inl (G 1, 4, .inl rr1))) ∧ (∀ k : Nat, k < 4 → rr1 k = if (k : Int) = (if ¬ (0 ≤ u1.toInt ∧ u1.toInt < (rb 80).toInt) then 0 else -1) then rr k + 1 else rr k))) := by
  refine met2 (own := RX11) (by decide) rfl (Nat.le_of_ble_eq_true rfl) ?_
  intro p e s m args below meth c ls Q hQ C hr hini hl h
  have hl : lv_has ls 3 [(0, .ref u0), (1, .int u1)] := hl
  obtain ⟨hx, hb, hml, hown, hts, hE0, hlk⟩ := id C
  have o := Fr.rf [60, 63, 65, 66, 60001, 60011] τ f
  have L28 : ∀ (n28 : Nat) (ls : Array Slot) (f_28 : hM) (H : Heap) (locs : List Loc) (v28_2 : Int32) (g28_bq_R : Nat → Int32) (g28_u0_10 : Int32) (g28_kq_R : Nat → Int32), 70 - v28_2.toInt < (n28 : Int) → lv_has ls 3 [(0, .ref u0), (2, .int v28_2)] → hw D b0 s.heap f_28 H locs → TI G 9 τ f_28 → Fr [60, 63, 65, 66, 60001, 60011] τ f f_28 → iv v28_2 0 70 → iv g28_u0_10 1 12 → atp f_28 u0 (fd 6 (.ref bq)) → atp f_28 u0 (fd 8 (.ref kq)) → atp f_28 u0 (fd 9 (.ref fq)) → atp f_28 bq (eqc (.inl (G 1, 81, .inl g28_bq_R))) → atp f_28 fq (eqc (.inl (G 1, 4, .inl rr))) → atp f_28 u0 (fd 10 (.int g28_u0_10)) → atp f_28 kq (eqc (.inl (G 1, 972, .inl g28_kq_R))) → ((g28_bq_R 80).toInt = (rb 80).toInt) → 0 ≤ u1.toInt ∧ u1.toInt < (rb 80).toInt → 10 * u1.toInt ≤ v28_2.toInt → ((ac.toInt = 12 → g28_u0_10.toInt = 12) ∧ (ac.toInt ≠ 12 → g28_u0_10.toInt = ac.toInt + 1)) → (∀ k : Nat, k < 972 → g28_kq_R k = kp rk rb ac.toInt k) → (∀ k : Nat, g28_bq_R k = if 10 * u1.toInt ≤ (k : Int) ∧ (k : Int) < v28_2.toInt then rb (k + 10) else rb k) → W p l e rm_s_X11_dropX s m args below meth c H locs 0 0 Q (F0 m 28 ls []) := by
    intro n28
    induction n28 with
    | zero => intro ls f_28 H locs v28_2 g28_bq_R g28_u0_10 g28_kq_R hm28 hl h t_28 o_28 iv28_2 ig28_u0_10 k28_u0_6 k28_u0_8 k28_u0_9 k28_bq_R k28_fq_R k28_u0_10 k28_kq_R hv28_0 hv28_1 hv28_2 hv28_3 hv28_4 hv28_5; exact absurd hm28 (by omega)
    | succ n28 ih28 =>
      intro ls f_28 H locs v28_2 g28_bq_R g28_u0_10 g28_kq_R hm28 hl h t_28 o_28 iv28_2 ig28_u0_10 k28_u0_6 k28_u0_8 k28_u0_9 k28_bq_R k28_fq_R k28_u0_10 k28_kq_R hv28_0 hv28_1 hv28_2 hv28_3 hv28_4 hv28_5
      refine lv_iload_n hx hb dX11_drop_28 rfl (lv_at hl 1 rfl) ?_
      refine lv_bipush (v := 70) hx hb dX11_drop_29 (by decide) ?_
      refine lv_icmp_ge (tgt := 55) hx hb dX11_drop_31 (by decide) (fun c1 => ?_) (fun c1 => ?_)
      · have c2 : 70 ≤ v28_2.toInt := Int32.le_iff_toInt_le.mp c1
        have i3 : iv v28_2 70 70 := iv_Er c2 (iv_k (x := 70) (k := 70) rfl) iv28_2 (by decide)
        refine lv_aload_n hx hb dX11_drop_55 rfl (lv_at hl 0 rfl) ?_
        refine t_getfd C h t_28 hu0 (by decide) wf_60 (v := .ref bq) k28_u0_6 fl_X11_17 dX11_drop_56 ?_
        refine lv_bipush (v := 80) hx hb dX11_drop_59 (by decide) ?_
        refine lv_dup2_11 hx hb dX11_drop_61 rfl rfl ?_
        refine e_bk80 C h t_28 hbq (by decide) wf_63 k28_bq_R dX11_drop_62 (fun z6 ez6 iz6 => ?_)
        have mz6 := congrArg Int32.toInt ez6
        refine lv_iconst (v := 1) hx hb dX11_drop_63 (by decide) ?_
        refine i_subk hx hb dX11_drop_64 iz6 (k := 1) rfl (lo := (-1)) (hi := 7) (by decide) (fun z7 ez7 mz7 iz7 => ?_)
        refine e_bkst C h t_28 o_28 hbq (by decide) (by decide) wf_63 fw_63 k28_bq_R (Or.inr ⟨rfl, (show iv z7 0 8 from by omega)⟩) dX11_drop_65 (fun R10 f8 erR10 H locs h tf8 of8 hq hn_ k9 => ?_)
        have erR10 : R10 = upd g28_bq_R 80 z7 := erR10
        have k11 := atp.tg k28_u0_6 hq hu0 (by decide)
        have k12 := atp.tg k28_u0_8 hq hu0 (by decide)
        have k13 := atp.tg k28_u0_9 hq hu0 (by decide)
        have k15 := atp.tg k28_fq_R hq hfq (by decide)
        have k16 := atp.tg k28_u0_10 hq hu0 (by decide)
        have k17 := atp.tg k28_kq_R hq hkq (by decide)
        refine lv_aload_n hx hb dX11_drop_66 rfl (lv_at hl 0 rfl) ?_
        refine t_getfd C h tf8 hu0 (by decide) wf_60 (v := .ref bq) k11 fl_X11_17 dX11_drop_67 ?_
        refine lv_bipush (v := 80) hx hb dX11_drop_70 (by decide) ?_
        refine e_bk80 C h tf8 hbq (by decide) wf_63 k9 dX11_drop_72 (fun z18 ez18 iz18 => ?_)
        have mz18 := congrArg Int32.toInt ez18
        exact u_iret C h hr hQ (⟨(iv_w iz18 (by decide)), tf8, of8, ⟨fun _ => (by have h_ : (R10 80).toInt = z7.toInt := (by rw [erR10, upd_at rfl]); omega), fun z_ => (z_ (by omega)).elim⟩, ⟨g28_u0_10, k16, (iv_w ig28_u0_10 (by decide)), ⟨fun _ => (by omega), fun z_ => (z_ (by omega)).elim⟩⟩, ⟨R10, k9, (fun k hk => by
            rw [if_pos (by omega)]
            rw [erR10]; unfold dr; by_cases q_ : k = 80
            · rw [upd_at q_, if_pos q_]; exact toInt_sub1 (by omega)
            · rw [upd_off q_, if_neg q_, hv28_5 k]; (repeat' split) <;> first | rfl | (exfalso; omega) | (exact congrArg _ (by omega)))⟩, ⟨g28_kq_R, k17, (fun k hk => by rw [if_pos (by omega)]; exact hv28_4 k hk)⟩, ⟨rr, k15, (bump_no (by rw [if_neg (by omega)]))⟩⟩) (Nat.le_of_ble_eq_true rfl) (Nat.le_of_ble_eq_true rfl) dX11_drop_73
      · have c4 : v28_2.toInt < 70 := Int32.lt_iff_toInt_lt.mp (iv_nle c1)
        have i5 : iv v28_2 0 69 := iv_Ll c4 iv28_2 (iv_k (x := 70) (k := 70) rfl) (by decide)
        refine lv_aload_n hx hb dX11_drop_34 rfl (lv_at hl 0 rfl) ?_
        refine t_getfd C h t_28 hu0 (by decide) wf_60 (v := .ref bq) k28_u0_6 fl_X11_17 dX11_drop_35 ?_
        refine lv_iload_n hx hb dX11_drop_38 rfl (lv_at hl 1 rfl) ?_
        refine lv_aload_n hx hb dX11_drop_39 rfl (lv_at hl 0 rfl) ?_
        refine t_getfd C h t_28 hu0 (by decide) wf_60 (v := .ref bq) k28_u0_6 fl_X11_17 dX11_drop_40 ?_
        refine lv_iload_n hx hb dX11_drop_43 rfl (lv_at hl 1 rfl) ?_
        refine lv_bipush (v := 10) hx hb dX11_drop_44 (by decide) ?_
        refine i_addk hx hb dX11_drop_46 i5 (k := 10) rfl (lo := 10) (hi := 79) (by decide) (fun z19 ez19 mz19 iz19 => ?_)
        refine e_bkld C h t_28 hbq (by decide) wf_63 k28_bq_R iz19 (by decide) dX11_drop_47 (fun z20 ez20 iz20 => ?_)
        have mz20 := congrArg Int32.toInt ez20
        refine e_bkst C h t_28 o_28 hbq (by decide) (by decide) wf_63 fw_63 k28_bq_R (Or.inl ⟨iv_w i5 (by decide), iz20⟩) dX11_drop_48 (fun R23 f21 erR23 H locs h tf21 of21 hq hn_ k22 => ?_)
        have k24 := atp.tg k28_u0_6 hq hu0 (by decide)
        have k25 := atp.tg k28_u0_8 hq hu0 (by decide)
        have k26 := atp.tg k28_u0_9 hq hu0 (by decide)
        have k28 := atp.tg k28_fq_R hq hfq (by decide)
        have k29 := atp.tg k28_u0_10 hq hu0 (by decide)
        have k30 := atp.tg k28_kq_R hq hkq (by decide)
        refine i_inc hx hb dX11_drop_49 hl (k := 1) rfl i5 rfl (lo := 1) (hi := 70) (by decide) (by decide) (lv' := fun v => [(2, .int v), (0, .ref u0)]) (fun _ => rfl) (fun z31 ls ez31 mz31 iz31 hl => ?_)
        refine lv_goto (tgt := 28) hx hb dX11_drop_52 (by decide) ?_
        exact ih28 ls f21 H locs z31 R23 g28_u0_10 g28_kq_R (show 70 - z31.toInt < _ by omega) (lv_cons hl 1 rfl (lv_cons hl 0 rfl (lv_nil hl))) h tf21 of21 (iv_w iz31 (by decide)) ig28_u0_10 k24 k25 k26 k22 k28 k29 k30 (show (R23 80).toInt = (rb 80).toInt from (by rw [erR23, upd_off (by omega)]; exact hv28_0)) (show 0 ≤ u1.toInt ∧ u1.toInt < (rb 80).toInt by omega) (show 10 * u1.toInt ≤ z31.toInt by omega) (show ((ac.toInt = 12 → g28_u0_10.toInt = 12) ∧ (ac.toInt ≠ 12 → g28_u0_10.toInt = ac.toInt + 1)) by omega) (show ∀ k : Nat, k < 972 → g28_kq_R k = kp rk rb ac.toInt k from hv28_4) (show ∀ k : Nat, R23 k = if 10 * u1.toInt ≤ (k : Int) ∧ (k : Int) < z31.toInt then rb (k + 10) else rb k from (by
            intro k; rw [erR23]; by_cases q_ : k = v28_2.toInt.toNat
            · rw [upd_at q_, ez20, hv28_5 _]; (repeat' split) <;> first | rfl | (exfalso; omega) | (exact congrArg _ (by omega))
            · rw [upd_off q_, hv28_5 k]; (repeat' split) <;> first | rfl | (exfalso; omega) | (exact congrArg _ (by omega))))
  refine lv_aload_n hx hb dX11_drop_0 rfl (lv_at hl 0 rfl) ?_
  refine lv_iconst (v := 0) hx hb dX11_drop_1 (by decide) ?_
  refine t_put C h t o hu0 (by decide) (by decide) (by decide) wf_60 fw_60 (k := 0) rfl flw_X11_75 (Or.inr ⟨_, _, _, rfl, rfl⟩) (v := .int 0) rfl rfl ⟨_, rfl, ⟨by decide, by decide⟩⟩ dX11_drop_2 (fun f32 H locs h tf32 of32 hq ha_ hn_ hk_ => ?_)
  have k33 := hk_ 10 _ (by decide) k_u0_10
  have k34 := hk_ 6 _ (by decide) k_u0_6
  have k35 := hk_ 8 _ (by decide) k_u0_8
  have k36 := hk_ 9 _ (by decide) k_u0_9
  have k37 := atp.tg hRbq hq hbq (by decide)
  have k38 := atp.tg hRkq hq hkq (by decide)
  have k39 := atp.tg hRfq hq hfq (by decide)
  have k40 := ha_
  refine lv_aload_n hx hb dX11_drop_5 rfl (lv_at hl 0 rfl) ?_
  refine lv_iload_n hx hb dX11_drop_6 rfl (lv_at hl 1 rfl) ?_
  obtain ⟨_, r41⟩ := t_rec tf32 hu0 (by decide) wf_60
  refine k_i (r_V C h hl (As := [.int u1]) (rest := []) (s_X11_isSetX l D G b0 τ f32 tf32 u0 hu0 u1 hu1 bq hbq k34 rb k37) r41 (Cn := RX11) (T := TX11) (N := 32) rfl rfl mk_X11_isSet w_1620 w_1622 w_51 w_1623 ⟨Nat.le_of_ble_eq_true rfl, Nat.le_of_ble_eq_true rfl⟩ rfl (Nat.le_of_ble_eq_true rfl) ⟨Nat.le_of_ble_eq_true rfl, Nat.le_of_ble_eq_true rfl⟩ rfl dX11_drop_7) h (fun r42 f43 H locs p44 h => ?_)
  obtain ⟨ir42, tf43, ogf43, cnr42, czr42⟩ := p44
  have egf43 := Fr.nil2 ogf43
  subst egf43
  refine lv_if_ne (tgt := 19) hx hb dX11_drop_10 (by decide) (fun c45 => ?_) (fun c45 => ?_)
  · have c46 : r42.toInt ≠ 0 := fun z_ => c45 (Int32.toInt_inj.mp z_)
    have i47 : iv r42 1 1 := iv_Nl c46 ir42 (by decide)
    obtain ⟨i48, i49⟩ := cnr42 c46
    refine lv_aload_n hx hb dX11_drop_19 rfl (lv_at hl 0 rfl) ?_
    obtain ⟨_, r53⟩ := t_rec tf32 hu0 (by decide) wf_60
    refine k_v (r_V C h hl (As := []) (rest := []) (s_X11_keepsX l D G b0 τ f32 tf32 u0 hu0 ac hac k33 bq hbq k34 kq hkq k35 rb k37 rk k38) r53 (Cn := RX11) (T := TX11) (N := 32) rfl rfl mk_X11_keeps w_1612 w_1614 w_50 w_1615 ⟨Nat.le_of_ble_eq_true rfl, Nat.le_of_ble_eq_true rfl⟩ rfl (Nat.le_of_ble_eq_true rfl) ⟨Nat.le_of_ble_eq_true rfl, Nat.le_of_ble_eq_true rfl⟩ rfl dX11_drop_20) h (fun f55 H locs p56 h => ?_)
    obtain ⟨tf55, ogf55, ⟨ac1_f55, kpu0_10f55, ipu0_10f55, rpu0_10f55⟩, ⟨rk1_f55, kRkqf55, pRkqf55⟩⟩ := p56
    have of55 : Fr [60, 63, 65, 66, 60001, 60011] τ f f55 := Fr.tr of32 ogf55 (by decide) (by decide)
    have k57 := atp.fk k34 ogf55 hu0 (by decide) (by decide)
    have k58 := atp.fk k35 ogf55 hu0 (by decide) (by decide)
    have k59 := atp.fk k36 ogf55 hu0 (by decide) (by decide)
    have k60 := atp.fr k37 ogf55 hbq (by decide)
    have k61 := atp.fr k39 ogf55 hfq (by decide)
    refine lv_bipush (v := 10) hx hb dX11_drop_23 (by decide) ?_
    refine lv_iload_n hx hb dX11_drop_25 rfl (lv_at hl 1 rfl) ?_
    refine i_cmul hx hb dX11_drop_26 (k := 10) rfl i48 (lo := 0) (hi := 70) (by decide) (fun z62 ez62 mz62 iz62 => ?_)
    refine lv_istore_n (lv' := [(2, .int z62), (0, .ref u0), (1, .int u1)]) hx hb dX11_drop_27 rfl hl (by decide) rfl (fun ls hl => ?_)
    exact L28 71 ls f55 H locs z62 rb ac1_f55 rk1_f55 (show 70 - z62.toInt < _ by omega) (lv_cons hl 1 rfl (lv_cons hl 0 rfl (lv_nil hl))) h tf55 of55 iz62 ipu0_10f55 k57 k58 k59 k60 k61 kpu0_10f55 kRkqf55 (show (rb 80).toInt = (rb 80).toInt from rfl) (show 0 ≤ u1.toInt ∧ u1.toInt < (rb 80).toInt by omega) (show 10 * u1.toInt ≤ z62.toInt by omega) (show ((ac.toInt = 12 → ac1_f55.toInt = 12) ∧ (ac.toInt ≠ 12 → ac1_f55.toInt = ac.toInt + 1)) by omega) (show ∀ k : Nat, k < 972 → rk1_f55 k = kp rk rb ac.toInt k from pRkqf55) (show ∀ k : Nat, rb k = if 10 * u1.toInt ≤ (k : Int) ∧ (k : Int) < z62.toInt then rb (k + 10) else rb k from (by
        intro k; (repeat' split) <;> first | rfl | (exfalso; omega) | (exact congrArg _ (by omega))))
  · have c50 : r42.toInt = 0 := congrArg Int32.toInt c45
    have i51 : iv r42 0 0 := iv_Q c50 ir42 (iv_k (x := 0) (k := 0) rfl) (by decide)
    have i52 := czr42 c50
    refine lv_aload_n hx hb dX11_drop_13 rfl (lv_at hl 0 rfl) ?_
    refine lv_iconst (v := 0) hx hb dX11_drop_14 (by decide) ?_
    obtain ⟨_, r63⟩ := t_rec tf32 hu0 (by decide) wf_60
    refine k_i (r_V C h hl (As := [.int 0]) (rest := []) (s_X11_refuseX l D G b0 τ f32 tf32 u0 hu0 0 (iv_w (iv_k (x := 0) (k := 0) rfl) (by decide)) fq hfq k36 rr k39) r63 (Cn := RX11) (T := TX11) (N := 32) rfl rfl mk_X11_refuse w_1604 w_1606 w_48 w_1607 ⟨Nat.le_of_ble_eq_true rfl, Nat.le_of_ble_eq_true rfl⟩ rfl (Nat.le_of_ble_eq_true rfl) ⟨Nat.le_of_ble_eq_true rfl, Nat.le_of_ble_eq_true rfl⟩ rfl dX11_drop_15) h (fun r64 f65 H locs p66 h => ?_)
    obtain ⟨ir64, tf65, ogf65, ⟨rr1_f65, kRfqf65, pRfqf65⟩⟩ := p66
    have of65 : Fr [60, 63, 65, 66, 60001, 60011] τ f f65 := Fr.tr of32 ogf65 (by decide) (by decide)
    have k67 := atp.fr k33 ogf65 hu0 (by decide)
    have k68 := atp.fr k34 ogf65 hu0 (by decide)
    have k69 := atp.fr k35 ogf65 hu0 (by decide)
    have k70 := atp.fr k36 ogf65 hu0 (by decide)
    have k71 := atp.fr k37 ogf65 hbq (by decide)
    have k72 := atp.fr k38 ogf65 hkq (by decide)
    exact u_iret C h hr hQ (⟨(iv_w ir64 (by decide)), tf65, of65, ⟨fun z_ => absurd z_ (by omega), fun _ => (by omega)⟩, ⟨ac, k67, hac, ⟨fun z_ => absurd z_ (by omega), fun _ => rfl⟩⟩, ⟨rb, k71, (fun k hk => by rw [if_neg (by omega)])⟩, ⟨rk, k72, (fun k hk => by rw [if_neg (by omega)])⟩, ⟨rr1_f65, kRfqf65, (bump_eq (c := 0) pRfqf65 rfl (by decide) (by rw [if_pos (by omega)]))⟩⟩) (Nat.le_of_ble_eq_true rfl) (Nat.le_of_ble_eq_true rfl) dX11_drop_18
