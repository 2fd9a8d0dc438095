theorem dJ9_floorMod_f86c9_0 : decode cJ9_floorMod_f86c9 0 = .ok (.lload_n 0, 1) := by decide +kernel
theorem dJ9_floorMod_f86c9_1 : decode cJ9_floorMod_f86c9 1 = .ok (.lload_n 2, 1) := by decide +kernel
theorem dJ9_floorMod_f86c9_2 : decode cJ9_floorMod_f86c9 2 = .ok (.lrem, 1) := by decide +kernel
theorem dJ9_floorMod_f86c9_3 : decode cJ9_floorMod_f86c9 3 = .ok (.lstore 4, 2) := by decide +kernel
theorem dJ9_floorMod_f86c9_5 : decode cJ9_floorMod_f86c9 5 = .ok (.lload_n 0, 1) := by decide +kernel
theorem dJ9_floorMod_f86c9_6 : decode cJ9_floorMod_f86c9 6 = .ok (.lload_n 2, 1) := by decide +kernel
theorem dJ9_floorMod_f86c9_7 : decode cJ9_floorMod_f86c9 7 = .ok (.lxor, 1) := by decide +kernel
theorem dJ9_floorMod_f86c9_8 : decode cJ9_floorMod_f86c9 8 = .ok (.lconst 0, 1) := by decide +kernel
theorem dJ9_floorMod_f86c9_9 : decode cJ9_floorMod_f86c9 9 = .ok (.lcmp, 1) := by decide +kernel
theorem dJ9_floorMod_f86c9_10 : decode cJ9_floorMod_f86c9 10 = .ok (.ifCond .ge 15, 3) := by decide +kernel
theorem dJ9_floorMod_f86c9_25 : decode cJ9_floorMod_f86c9 25 = .ok (.lload 4, 2) := by decide +kernel
theorem dJ9_floorMod_f86c9_13 : decode cJ9_floorMod_f86c9 13 = .ok (.lload 4, 2) := by decide +kernel
theorem dJ9_floorMod_f86c9_15 : decode cJ9_floorMod_f86c9 15 = .ok (.lconst 0, 1) := by decide +kernel
theorem dJ9_floorMod_f86c9_16 : decode cJ9_floorMod_f86c9 16 = .ok (.lcmp, 1) := by decide +kernel
theorem dJ9_floorMod_f86c9_17 : decode cJ9_floorMod_f86c9 17 = .ok (.ifCond .eq 8, 3) := by decide +kernel
theorem dJ9_floorMod_f86c9_20 : decode cJ9_floorMod_f86c9 20 = .ok (.lload 4, 2) := by decide +kernel
theorem dJ9_floorMod_f86c9_22 : decode cJ9_floorMod_f86c9 22 = .ok (.lload_n 2, 1) := by decide +kernel
theorem dJ9_floorMod_f86c9_23 : decode cJ9_floorMod_f86c9 23 = .ok (.ladd, 1) := by decide +kernel
theorem dJ9_floorMod_f86c9_27 : decode cJ9_floorMod_f86c9 27 = .ok (.lreturn, 1) := by decide +kernel
theorem dJ9_floorMod_f86c9_24 : decode cJ9_floorMod_f86c9 24 = .ok (.lreturn, 1) := by decide +kernel
theorem w_1788 : Cond.methodLink "QuarterWalksModel" 287 yJ9_floorMod_f86c9 ∈ wAll := wIn 1788 (by decide +kernel) (by decide +kernel)
theorem mk_J9_floorMod_f86c9 : mk yJ9_floorMod_f86c9 2 := ⟨by decide +kernel, w_112⟩
theorem w_1789 : Cond.static yJ9_floorMod_f86c9 ∈ wAll := wIn 1789 (by decide +kernel) (by decide +kernel)
theorem w_1790 : Cond.code yJ9_floorMod_f86c9 cJ9_floorMod_f86c9 6 (some .long) ∈ wAll := wIn 1790 (by decide +kernel) (by decide +kernel)
theorem dX11_reflected_118 : decode cX11_reflected 118 = .ok (.l2i, 1) := by decide +kernel
theorem dX11_reflected_56 : decode cX11_reflected 56 = .ok (.ireturn, 1) := by decide +kernel
theorem dX11_reflected_119 : decode cX11_reflected 119 = .ok (.ireturn, 1) := by decide +kernel
theorem dX10_alike_0 : decode cX10_alike 0 = .ok (.aload_n 0, 1) := by decide +kernel
theorem dX10_alike_1 : decode cX10_alike 1 = .ok (.getfield 19, 3) := by decide +kernel
theorem dX10_alike_4 : decode cX10_alike 4 = .ok (.iload_n 1, 1) := by decide +kernel
theorem dX10_alike_5 : decode cX10_alike 5 = .ok (.invokevirtual 110, 3) := by decide +kernel
theorem dX10_alike_8 : decode cX10_alike 8 = .ok (.astore_n 2, 1) := by decide +kernel
theorem dX10_alike_9 : decode cX10_alike 9 = .ok (.aload_n 2, 1) := by decide +kernel
theorem dX10_alike_10 : decode cX10_alike 10 = .ok (.ifnonnull 5, 3) := by decide +kernel
theorem dX10_alike_13 : decode cX10_alike 13 = .ok (.iconst (-1), 1) := by decide +kernel
theorem dX10_alike_15 : decode cX10_alike 15 = .ok (.iconst 0, 1) := by decide +kernel
theorem dX10_alike_16 : decode cX10_alike 16 = .ok (.istore_n 3, 1) := by decide +kernel
theorem dX10_alike_17 : decode cX10_alike 17 = .ok (.iload_n 3, 1) := by decide +kernel
theorem dX10_alike_18 : decode cX10_alike 18 = .ok (.iload_n 1, 1) := by decide +kernel
theorem dX10_alike_19 : decode cX10_alike 19 = .ok (.if_icmp .ge 43, 3) := by decide +kernel
theorem dX10_alike_62 : decode cX10_alike 62 = .ok (.iload_n 1, 1) := by decide +kernel
theorem dX10_alike_22 : decode cX10_alike 22 = .ok (.aload_n 0, 1) := by decide +kernel
theorem dX10_alike_23 : decode cX10_alike 23 = .ok (.getfield 19, 3) := by decide +kernel
theorem dX10_alike_26 : decode cX10_alike 26 = .ok (.iload_n 3, 1) := by decide +kernel
theorem dX10_alike_27 : decode cX10_alike 27 = .ok (.invokevirtual 110, 3) := by decide +kernel
theorem dX10_alike_30 : decode cX10_alike 30 = .ok (.astore 4, 2) := by decide +kernel
theorem dX10_alike_32 : decode cX10_alike 32 = .ok (.aload 4, 2) := by decide +kernel
theorem dX10_alike_34 : decode cX10_alike 34 = .ok (.ifnull 22, 3) := by decide +kernel
theorem dX10_alike_56 : decode cX10_alike 56 = .ok (.iinc 3 1, 3) := by decide +kernel
theorem dX10_alike_59 : decode cX10_alike 59 = .ok (.goto (-42), 3) := by decide +kernel
theorem dX10_alike_37 : decode cX10_alike 37 = .ok (.aload_n 0, 1) := by decide +kernel
theorem dX10_alike_38 : decode cX10_alike 38 = .ok (.aload 4, 2) := by decide +kernel
theorem dX10_alike_40 : decode cX10_alike 40 = .ok (.invokevirtual 320, 3) := by decide +kernel
theorem dX10_alike_43 : decode cX10_alike 43 = .ok (.aload_n 0, 1) := by decide +kernel
theorem dX10_alike_44 : decode cX10_alike 44 = .ok (.aload_n 2, 1) := by decide +kernel
theorem dX10_alike_45 : decode cX10_alike 45 = .ok (.invokevirtual 320, 3) := by decide +kernel
theorem dX10_alike_48 : decode cX10_alike 48 = .ok (.invokestatic 324, 3) := by decide +kernel
theorem w_1019 : Cond.methodLink "QuarterWalks" 324 yX10_areAlike ∈ wAll := wIn 1019 (by decide +kernel) (by decide +kernel)
theorem mk_X10_areAlike : mk yX10_areAlike 2 := ⟨by decide +kernel, w_96⟩
theorem w_1020 : Cond.static yX10_areAlike ∈ wAll := wIn 1020 (by decide +kernel) (by decide +kernel)
theorem w_1021 : Cond.code yX10_areAlike cX10_areAlike 3 (some .boolean) ∈ wAll := wIn 1021 (by decide +kernel) (by decide +kernel)
theorem dX10_alike_51 : decode cX10_alike 51 = .ok (.ifCond .eq 5, 3) := by decide +kernel
theorem dX10_alike_54 : decode cX10_alike 54 = .ok (.iload_n 3, 1) := by decide +kernel
theorem dX10_alike_14 : decode cX10_alike 14 = .ok (.ireturn, 1) := by decide +kernel
theorem dX10_alike_63 : decode cX10_alike 63 = .ok (.ireturn, 1) := by decide +kernel
theorem dX10_alike_55 : decode cX10_alike 55 = .ok (.ireturn, 1) := by decide +kernel
abbrev rm_s_J9_floorMod_f86c9 : Room := { frames := 0, cells := 0, slots := 0, locals := 0 }
set_option maxRecDepth 100000 in
set_option maxHeartbeats 4000000 in
theorem s_J9_floorMod_f86c9 (l : Launch) (D : va_G) (G : Nat → Nat) (b0 : Nat) (τ : Nat → Nat) (f : hM) (t : TI G 9 τ f) (u0 : Int64) (u1 : Int64) (hu1 : ivl u1 1000003 1000003) : mL l yJ9_floorMod_f86c9 cJ9_floorMod_f86c9 6 rm_s_J9_floorMod_f86c9 D G b0 f [.long u0, .long u1] (fun r f1 => TI G 9 τ f1 ∧ Fr [] τ f f1) := by
  refine met2F (own := RJ9) (by decide +kernel) rfl (Nat.le_of_ble_eq_true rfl) ?_
  intro p e s m args below meth c ls Q hQ C hr hini hl h
  have hl : lv_has ls 6 [(0, .long u0), (2, .long u1)] := hl
  obtain ⟨hx, hb, hml, hown, hts, hE0, hlk⟩ := id C
  have o := Fr.rf [] τ f
  refine lv_lload_n hx hb dJ9_floorMod_f86c9_0 rfl (lv_at hl 0 rfl) ?_
  refine lv_lload_n hx hb dJ9_floorMod_f86c9_1 rfl (lv_at hl 1 rfl) ?_
  refine lv_lrem hx hb dJ9_floorMod_f86c9_2 (ivl_nz hu1 (by decide)) (lv_topl (fun w1 ew1 => ?_))
  refine lv_lstore (lv' := [(4, .long w1), (0, .long u0), (2, .long u1)]) hx hb dJ9_floorMod_f86c9_3 hl (by decide) rfl (fun ls hl => ?_)
  refine lv_lload_n hx hb dJ9_floorMod_f86c9_5 rfl (lv_at hl 1 rfl) ?_
  refine lv_lload_n hx hb dJ9_floorMod_f86c9_6 rfl (lv_at hl 2 rfl) ?_
  refine lv_lxor hx hb dJ9_floorMod_f86c9_7 (lv_topl (fun w2 ew2 => ?_))
  refine lv_lconst (v := 0) hx hb dJ9_floorMod_f86c9_8 (by decide) ?_
  refine W.lcmp hx hb dJ9_floorMod_f86c9_9 (i_topc (fun z3 ez3 mz3 iz3 => ?_))
  refine lv_if_ge (tgt := 25) hx hb dJ9_floorMod_f86c9_10 (by decide) (fun c4 => ?_) (fun c4 => ?_)
  · have c5 : 0 ≤ z3.toInt := Int32.le_iff_toInt_le.mp c4
    have i6 : iv z3 0 1 := iv_Er c5 (iv_k (x := 0) (k := 0) rfl) iz3 (by decide)
    refine lv_lload hx hb dJ9_floorMod_f86c9_25 (lv_at hl 0 rfl) ?_
    exact u_lret C h hr hQ (⟨t, o⟩) (Nat.le_of_ble_eq_true rfl) (Nat.le_of_ble_eq_true rfl) dJ9_floorMod_f86c9_27
  · have c7 : z3.toInt < 0 := Int32.lt_iff_toInt_lt.mp (iv_nle c4)
    have i8 : iv z3 (-1) (-1) := iv_Ll c7 iz3 (iv_k (x := 0) (k := 0) rfl) (by decide)
    refine lv_lload hx hb dJ9_floorMod_f86c9_13 (lv_at hl 0 rfl) ?_
    refine lv_lconst (v := 0) hx hb dJ9_floorMod_f86c9_15 (by decide) ?_
    refine W.lcmp hx hb dJ9_floorMod_f86c9_16 (i_topc (fun z9 ez9 mz9 iz9 => ?_))
    refine lv_if_eq (tgt := 25) hx hb dJ9_floorMod_f86c9_17 (by decide) (fun c10 => ?_) (fun c10 => ?_)
    · have c11 : z9.toInt = 0 := congrArg Int32.toInt c10
      have i12 : iv z9 0 0 := iv_Q c11 iz9 (iv_k (x := 0) (k := 0) rfl) (by decide)
      refine lv_lload hx hb dJ9_floorMod_f86c9_25 (lv_at hl 0 rfl) ?_
      exact u_lret C h hr hQ (⟨t, o⟩) (Nat.le_of_ble_eq_true rfl) (Nat.le_of_ble_eq_true rfl) dJ9_floorMod_f86c9_27
    · have c13 : z9.toInt ≠ 0 := fun z_ => c10 (Int32.toInt_inj.mp z_)
      refine lv_lload hx hb dJ9_floorMod_f86c9_20 (lv_at hl 0 rfl) ?_
      refine lv_lload_n hx hb dJ9_floorMod_f86c9_22 rfl (lv_at hl 2 rfl) ?_
      refine lv_ladd hx hb dJ9_floorMod_f86c9_23 (lv_topl (fun w14 ew14 => ?_))
      exact u_lret C h hr hQ (⟨t, o⟩) (Nat.le_of_ble_eq_true rfl) (Nat.le_of_ble_eq_true rfl) dJ9_floorMod_f86c9_24
abbrev rm_s_X11_reflected : Room := { frames := 3, cells := 0, slots := 0, locals := 83 }
set_option maxRecDepth 100000 in
set_option maxHeartbeats 4000000 in
theorem s_X11_reflected (l : Launch) (D : va_G) (G : Nat → Nat) (b0 : Nat) (τ : Nat → Nat) (f : hM) (t : TI G 9 τ f) (u0 : Nat) (hu0 : τ u0 = 60) (u1 : Int32) (hu1 : iv u1 (-2147483648) 2147483647) (u2 : Int32) (hu2 : iv u2 (-2147483648) 2147483647) (u3 : Int32) (hu3 : iv u3 (-2147483648) 2147483647) (u4 : Int32) (hu4 : iv u4 (-2147483648) 2147483647) : mI l yX11_reflected cX11_reflected 7 (.int) rm_s_X11_reflected D G b0 f [.ref u0, .int u1, .int u2, .int u3, .int u4] (fun r f1 => iv r (-2147483648) 2147483647 ∧ TI G 9 τ f1 ∧ Fr [60, 67, 60001, 60013, 60014, 60015] τ f f1) := by
  refine met2 (own := RX11) (by decide) rfl (Nat.le_of_ble_eq_true rfl) ?_
  intro p e s m args below meth c ls Q hQ C hr hini hl h
  have hl : lv_has ls 7 [(0, .ref u0), (1, .int u1), (2, .int u2), (3, .int u3), (4, .int u4)] := hl
  obtain ⟨hx, hb, hml, hown, hts, hE0, hlk⟩ := id C
  have o := Fr.rf [60, 67, 60001, 60013, 60014, 60015] τ f
  refine lv_aload_n hx hb dX11_reflected_0 rfl (lv_at hl 0 rfl) ?_
  refine lv_iconst (v := 0) hx hb dX11_reflected_1 (by decide) ?_
  refine t_put C h t o hu0 (by decide) (by decide) (by decide) wf_60 fw_60 (k := 0) rfl flw_X11_75 (Or.inr ⟨_, _, _, rfl, rfl⟩) (v := .int 0) rfl rfl ⟨_, rfl, ⟨by decide, by decide⟩⟩ dX11_reflected_2 (fun f1 H locs h tf1 of1 hq ha_ hn_ hk_ => ?_)
  have k2 := ha_
  refine lv_aload_n hx hb dX11_reflected_5 rfl (lv_at hl 0 rfl) ?_
  refine lv_iload_n hx hb dX11_reflected_6 rfl (lv_at hl 1 rfl) ?_
  obtain ⟨_, r3⟩ := t_rec tf1 hu0 (by decide) wf_60
  refine k_i (r_V C h hl (As := [.int u1]) (rest := []) (s_X11_isSet l D G b0 τ f1 tf1 u0 hu0 u1 hu1) r3 (Cn := RX11) (T := TX11) (N := 32) rfl rfl mk_X11_isSet w_1620 w_1622 w_51 w_1623 ⟨Nat.le_of_ble_eq_true rfl, Nat.le_of_ble_eq_true rfl⟩ rfl (Nat.le_of_ble_eq_true rfl) ⟨Nat.le_of_ble_eq_true rfl, Nat.le_of_ble_eq_true rfl⟩ rfl dX11_reflected_7) h (fun r4 f5 H locs p6 h => ?_)
  obtain ⟨ir4, tf5, ogf5, cnr4⟩ := p6
  have egf5 := Fr.nil2 ogf5
  subst egf5
  refine lv_if_eq (tgt := 53) hx hb dX11_reflected_10 (by decide) (fun c7 => ?_) (fun c7 => ?_)
  · have c8 : r4.toInt = 0 := congrArg Int32.toInt c7
    have i9 : iv r4 0 0 := iv_Q c8 ir4 (iv_k (x := 0) (k := 0) rfl) (by decide)
    refine lv_ldcw (v := -1000000) hx hb hown (hts _ w_1787) dX11_reflected_53 ?_
    exact u_iret C h hr hQ (⟨⟨by decide, by decide⟩, tf1, of1⟩) (Nat.le_of_ble_eq_true rfl) (Nat.le_of_ble_eq_true rfl) dX11_reflected_56
  · have c10 : r4.toInt ≠ 0 := fun z_ => c7 (Int32.toInt_inj.mp z_)
    have i11 : iv r4 1 1 := iv_Nl c10 ir4 (by decide)
    have i12 := cnr4 c10
    refine lv_iload_n hx hb dX11_reflected_13 rfl (lv_at hl 2 rfl) ?_
    refine k_i (r_S C h hl (As := [.int u2]) (rest := []) (s_X11_isLong l D G b0 τ f1 tf1 u2 hu2) mk_X11_isLong w_1689 w_1690 w_1691 ⟨Nat.le_of_ble_eq_true rfl, Nat.le_of_ble_eq_true rfl⟩ rfl (Nat.le_of_ble_eq_true rfl) ⟨Nat.le_of_ble_eq_true rfl, Nat.le_of_ble_eq_true rfl⟩ rfl dX11_reflected_14) h (fun r13 f14 H locs p15 h => ?_)
    obtain ⟨ir13, tf14, ogf14, cnr13⟩ := p15
    have egf14 := Fr.nil2 ogf14
    subst egf14
    refine lv_if_eq (tgt := 53) hx hb dX11_reflected_17 (by decide) (fun c16 => ?_) (fun c16 => ?_)
    · have c17 : r13.toInt = 0 := congrArg Int32.toInt c16
      have i18 : iv r13 0 0 := iv_Q c17 ir13 (iv_k (x := 0) (k := 0) rfl) (by decide)
      refine lv_ldcw (v := -1000000) hx hb hown (hts _ w_1787) dX11_reflected_53 ?_
      exact u_iret C h hr hQ (⟨⟨by decide, by decide⟩, tf1, of1⟩) (Nat.le_of_ble_eq_true rfl) (Nat.le_of_ble_eq_true rfl) dX11_reflected_56
    · have c19 : r13.toInt ≠ 0 := fun z_ => c16 (Int32.toInt_inj.mp z_)
      have i20 : iv r13 1 1 := iv_Nl c19 ir13 (by decide)
      have i21 := cnr13 c19
      refine lv_iload_n hx hb dX11_reflected_20 rfl (lv_at hl 3 rfl) ?_
      refine lv_i2l hx hb dX11_reflected_21 rfl (i_topL hu3 (fun w22 ew22 mw22 iw22 => ?_))
      refine lv_lconst (v := 0) hx hb dX11_reflected_22 (by decide) ?_
      refine lv_ldc2 (v := 60) hx hb hown (hts _ w_1692) dX11_reflected_23 ?_
      refine k_i (r_S C h hl (As := [.long w22, .long 0, .long 60]) (rest := []) (s_X11_isInX l D G b0 τ f1 tf1 w22 0 60) mk_X11_isIn w_1624 w_1625 w_1626 ⟨Nat.le_of_ble_eq_true rfl, Nat.le_of_ble_eq_true rfl⟩ rfl (Nat.le_of_ble_eq_true rfl) ⟨Nat.le_of_ble_eq_true rfl, Nat.le_of_ble_eq_true rfl⟩ rfl dX11_reflected_26) h (fun r23 f24 H locs p25 h => ?_)
      have n26 : (0 : Int64).toInt = 0 := rfl
      have n27 : (60 : Int64).toInt = 60 := rfl
      obtain ⟨ir23, tf24, ogf24, cnr23, czr23⟩ := p25
      have egf24 := Fr.nil2 ogf24
      subst egf24
      refine lv_if_eq (tgt := 53) hx hb dX11_reflected_29 (by decide) (fun c28 => ?_) (fun c28 => ?_)
      · have c29 : r23.toInt = 0 := congrArg Int32.toInt c28
        have i30 : iv r23 0 0 := iv_Q c29 ir23 (iv_k (x := 0) (k := 0) rfl) (by decide)
        have i31 := czr23 c29
        refine lv_ldcw (v := -1000000) hx hb hown (hts _ w_1787) dX11_reflected_53 ?_
        exact u_iret C h hr hQ (⟨⟨by decide, by decide⟩, tf1, of1⟩) (Nat.le_of_ble_eq_true rfl) (Nat.le_of_ble_eq_true rfl) dX11_reflected_56
      · have c32 : r23.toInt ≠ 0 := fun z_ => c28 (Int32.toInt_inj.mp z_)
        have i33 : iv r23 1 1 := iv_Nl c32 ir23 (by decide)
        obtain ⟨i34, i35⟩ := cnr23 c32
        have i36 : iv u3 0 60 := ⟨by omega, by omega⟩
        refine lv_iload hx hb dX11_reflected_32 (lv_at hl 4 rfl) ?_
        refine lv_i2l hx hb dX11_reflected_34 rfl (i_topL hu4 (fun w37 ew37 mw37 iw37 => ?_))
        refine lv_lconst (v := 0) hx hb dX11_reflected_35 (by decide) ?_
        refine lv_ldc2 (v := 60) hx hb hown (hts _ w_1692) dX11_reflected_36 ?_
        refine k_i (r_S C h hl (As := [.long w37, .long 0, .long 60]) (rest := []) (s_X11_isInX l D G b0 τ f1 tf1 w37 0 60) mk_X11_isIn w_1624 w_1625 w_1626 ⟨Nat.le_of_ble_eq_true rfl, Nat.le_of_ble_eq_true rfl⟩ rfl (Nat.le_of_ble_eq_true rfl) ⟨Nat.le_of_ble_eq_true rfl, Nat.le_of_ble_eq_true rfl⟩ rfl dX11_reflected_39) h (fun r38 f39 H locs p40 h => ?_)
        have n41 : (0 : Int64).toInt = 0 := rfl
        have n42 : (60 : Int64).toInt = 60 := rfl
        obtain ⟨ir38, tf39, ogf39, cnr38, czr38⟩ := p40
        have egf39 := Fr.nil2 ogf39
        subst egf39
        refine lv_if_eq (tgt := 53) hx hb dX11_reflected_42 (by decide) (fun c43 => ?_) (fun c43 => ?_)
        · have c44 : r38.toInt = 0 := congrArg Int32.toInt c43
          have i45 : iv r38 0 0 := iv_Q c44 ir38 (iv_k (x := 0) (k := 0) rfl) (by decide)
          have i46 := czr38 c44
          refine lv_ldcw (v := -1000000) hx hb hown (hts _ w_1787) dX11_reflected_53 ?_
          exact u_iret C h hr hQ (⟨⟨by decide, by decide⟩, tf1, of1⟩) (Nat.le_of_ble_eq_true rfl) (Nat.le_of_ble_eq_true rfl) dX11_reflected_56
        · have c47 : r38.toInt ≠ 0 := fun z_ => c43 (Int32.toInt_inj.mp z_)
          have i48 : iv r38 1 1 := iv_Nl c47 ir38 (by decide)
          obtain ⟨i49, i50⟩ := cnr38 c47
          have i51 : iv u4 0 60 := ⟨by omega, by omega⟩
          refine lv_aload_n hx hb dX11_reflected_45 rfl (lv_at hl 0 rfl) ?_
          refine lv_iload_n hx hb dX11_reflected_46 rfl (lv_at hl 1 rfl) ?_
          obtain ⟨_, r52⟩ := t_rec tf1 hu0 (by decide) wf_60
          refine k_i (r_V C h hl (As := [.int u1]) (rest := []) (s_X11_isEven l D G b0 τ f1 tf1 u0 hu0 u1 i12) r52 (Cn := RX11) (T := TX11) (N := 32) rfl rfl mk_X11_isEven w_1783 w_1785 w_66 w_1786 ⟨Nat.le_of_ble_eq_true rfl, Nat.le_of_ble_eq_true rfl⟩ rfl (Nat.le_of_ble_eq_true rfl) ⟨Nat.le_of_ble_eq_true rfl, Nat.le_of_ble_eq_true rfl⟩ rfl dX11_reflected_47) h (fun r53 f54 H locs p55 h => ?_)
          obtain ⟨ir53, tf54, ogf54⟩ := p55
          have egf54 := Fr.nil2 ogf54
          subst egf54
          refine lv_if_ne (tgt := 57) hx hb dX11_reflected_50 (by decide) (fun c56 => ?_) (fun c56 => ?_)
          · have c57 : r53.toInt ≠ 0 := fun z_ => c56 (Int32.toInt_inj.mp z_)
            have i58 : iv r53 1 1 := iv_Nl c57 ir53 (by decide)
            refine lv_aload_n hx hb dX11_reflected_57 rfl (lv_at hl 0 rfl) ?_
            refine lv_iload_n hx hb dX11_reflected_58 rfl (lv_at hl 1 rfl) ?_
            refine lv_iconst (v := 2) hx hb dX11_reflected_59 (by decide) ?_
            refine lv_iconst (v := 1) hx hb dX11_reflected_60 (by decide) ?_
            refine lv_iload_n hx hb dX11_reflected_61 rfl (lv_at hl 2 rfl) ?_
            obtain ⟨_, r61⟩ := t_rec tf1 hu0 (by decide) wf_60
            refine k_v (r_V C h hl (As := [.int u1, .int 2, .int 1, .int u2]) (rest := []) (s_X11_goesOn l D G b0 τ f1 tf1 u0 hu0 u1 i12 2 (iv_w (iv_k (x := 2) (k := 2) rfl) (by decide)) 1 (iv_w (iv_k (x := 1) (k := 1) rfl) (by decide)) u2 i21) r61 (Cn := RX11) (T := TX11) (N := 32) rfl rfl mk_X11_goesOn w_1698 w_1700 w_57 w_1701 ⟨Nat.le_of_ble_eq_true rfl, Nat.le_of_ble_eq_true rfl⟩ rfl (Nat.le_of_ble_eq_true rfl) ⟨Nat.le_of_ble_eq_true rfl, Nat.le_of_ble_eq_true rfl⟩ rfl dX11_reflected_62) h (fun f63 H locs p64 h => ?_)
            have n65 : (2 : Int32).toInt = 2 := rfl
            have n66 : (1 : Int32).toInt = 1 := rfl
            obtain ⟨tf63, ogf63, ⟨gg_f63, kpu0_14f63, ipu0_14f63, rpu0_14f63⟩⟩ := p64
            have of63 : Fr [60, 67, 60001, 60013, 60014, 60015] τ f f63 := Fr.tr of1 ogf63 (by decide) (by decide)
            refine lv_aload_n hx hb dX11_reflected_65 rfl (lv_at hl 0 rfl) ?_
            refine lv_iload_n hx hb dX11_reflected_66 rfl (lv_at hl 3 rfl) ?_
            refine lv_iload hx hb dX11_reflected_67 (lv_at hl 4 rfl) ?_
            obtain ⟨_, r67⟩ := t_rec tf63 hu0 (by decide) wf_60
            refine k_l (r_V C h hl (As := [.int u3, .int u4]) (rest := []) (s_X11_gridAt l D G b0 τ f63 tf63 u0 hu0 u3 (iv_w i36 (by decide)) u4 (iv_w i51 (by decide))) r67 (Cn := RX11) (T := TX11) (N := 32) rfl rfl mk_X11_gridAt w_1720 w_1722 w_60 w_1723 ⟨Nat.le_of_ble_eq_true rfl, Nat.le_of_ble_eq_true rfl⟩ rfl (Nat.le_of_ble_eq_true rfl) ⟨Nat.le_of_ble_eq_true rfl, Nat.le_of_ble_eq_true rfl⟩ rfl dX11_reflected_69) h (fun r68 f69 H locs p70 h => ?_)
            obtain ⟨tf69, ogf69⟩ := p70
            have egf69 := Fr.nil2 ogf69
            subst egf69
            refine lv_aload_n hx hb dX11_reflected_72 rfl (lv_at hl 0 rfl) ?_
            refine lv_iload_n hx hb dX11_reflected_73 rfl (lv_at hl 3 rfl) ?_
            refine lv_ineg hx hb dX11_reflected_74 (i_topm (P := fun q_ => q_ = -Int32.toInt u3) (iv_negm i36 (by decide)) (fun z71 ez71 mz71 iz71 => ?_))
            refine lv_iconst (v := 2) hx hb dX11_reflected_75 (by decide) ?_
            refine i_subk hx hb dX11_reflected_76 iz71 (k := 2) rfl (lo := (-62)) (hi := (-2)) (by decide) (fun z72 ez72 mz72 iz72 => ?_)
            refine lv_iload hx hb dX11_reflected_77 (lv_at hl 4 rfl) ?_
            refine lv_ineg hx hb dX11_reflected_79 (i_topm (P := fun q_ => q_ = -Int32.toInt u4) (iv_negm i51 (by decide)) (fun z73 ez73 mz73 iz73 => ?_))
            refine lv_iconst (v := 2) hx hb dX11_reflected_80 (by decide) ?_
            refine i_subk hx hb dX11_reflected_81 iz73 (k := 2) rfl (lo := (-62)) (hi := (-2)) (by decide) (fun z74 ez74 mz74 iz74 => ?_)
            obtain ⟨_, r75⟩ := t_rec tf63 hu0 (by decide) wf_60
            refine k_l (r_V C h hl (As := [.int z72, .int z74]) (rest := [.long r68]) (s_X11_gridAt l D G b0 τ f63 tf63 u0 hu0 z72 (iv_w iz72 (by decide)) z74 (iv_w iz74 (by decide))) r75 (Cn := RX11) (T := TX11) (N := 32) rfl rfl mk_X11_gridAt w_1720 w_1722 w_60 w_1723 ⟨Nat.le_of_ble_eq_true rfl, Nat.le_of_ble_eq_true rfl⟩ rfl (Nat.le_of_ble_eq_true rfl) ⟨Nat.le_of_ble_eq_true rfl, Nat.le_of_ble_eq_true rfl⟩ rfl dX11_reflected_82) h (fun r76 f77 H locs p78 h => ?_)
            obtain ⟨tf77, ogf77⟩ := p78
            have egf77 := Fr.nil2 ogf77
            subst egf77
            refine lv_ladd hx hb dX11_reflected_85 (lv_topl (fun w79 ew79 => ?_))
            refine lv_aload_n hx hb dX11_reflected_86 rfl (lv_at hl 0 rfl) ?_
            refine lv_iload_n hx hb dX11_reflected_87 rfl (lv_at hl 3 rfl) ?_
            refine lv_ineg hx hb dX11_reflected_88 (i_topm (P := fun q_ => q_ = -Int32.toInt u3) (iv_negm i36 (by decide)) (fun z80 ez80 mz80 iz80 => ?_))
            refine lv_iconst (v := 2) hx hb dX11_reflected_89 (by decide) ?_
            refine i_subk hx hb dX11_reflected_90 iz80 (k := 2) rfl (lo := (-62)) (hi := (-2)) (by decide) (fun z81 ez81 mz81 iz81 => ?_)
            refine lv_iload hx hb dX11_reflected_91 (lv_at hl 4 rfl) ?_
            obtain ⟨_, r82⟩ := t_rec tf63 hu0 (by decide) wf_60
            refine k_l (r_V C h hl (As := [.int z81, .int u4]) (rest := [.long w79]) (s_X11_gridAt l D G b0 τ f63 tf63 u0 hu0 z81 (iv_w iz81 (by decide)) u4 (iv_w i51 (by decide))) r82 (Cn := RX11) (T := TX11) (N := 32) rfl rfl mk_X11_gridAt w_1720 w_1722 w_60 w_1723 ⟨Nat.le_of_ble_eq_true rfl, Nat.le_of_ble_eq_true rfl⟩ rfl (Nat.le_of_ble_eq_true rfl) ⟨Nat.le_of_ble_eq_true rfl, Nat.le_of_ble_eq_true rfl⟩ rfl dX11_reflected_93) h (fun r83 f84 H locs p85 h => ?_)
            obtain ⟨tf84, ogf84⟩ := p85
            have egf84 := Fr.nil2 ogf84
            subst egf84
            refine lv_lsub hx hb dX11_reflected_96 (lv_topl (fun w86 ew86 => ?_))
            refine lv_aload_n hx hb dX11_reflected_97 rfl (lv_at hl 0 rfl) ?_
            refine lv_iload_n hx hb dX11_reflected_98 rfl (lv_at hl 3 rfl) ?_
            refine lv_iload hx hb dX11_reflected_99 (lv_at hl 4 rfl) ?_
            refine lv_ineg hx hb dX11_reflected_101 (i_topm (P := fun q_ => q_ = -Int32.toInt u4) (iv_negm i51 (by decide)) (fun z87 ez87 mz87 iz87 => ?_))
            refine lv_iconst (v := 2) hx hb dX11_reflected_102 (by decide) ?_
            refine i_subk hx hb dX11_reflected_103 iz87 (k := 2) rfl (lo := (-62)) (hi := (-2)) (by decide) (fun z88 ez88 mz88 iz88 => ?_)
            obtain ⟨_, r89⟩ := t_rec tf63 hu0 (by decide) wf_60
            refine k_l (r_V C h hl (As := [.int u3, .int z88]) (rest := [.long w86]) (s_X11_gridAt l D G b0 τ f63 tf63 u0 hu0 u3 (iv_w i36 (by decide)) z88 (iv_w iz88 (by decide))) r89 (Cn := RX11) (T := TX11) (N := 32) rfl rfl mk_X11_gridAt w_1720 w_1722 w_60 w_1723 ⟨Nat.le_of_ble_eq_true rfl, Nat.le_of_ble_eq_true rfl⟩ rfl (Nat.le_of_ble_eq_true rfl) ⟨Nat.le_of_ble_eq_true rfl, Nat.le_of_ble_eq_true rfl⟩ rfl dX11_reflected_104) h (fun r90 f91 H locs p92 h => ?_)
            obtain ⟨tf91, ogf91⟩ := p92
            have egf91 := Fr.nil2 ogf91
            subst egf91
            refine lv_lsub hx hb dX11_reflected_107 (lv_topl (fun w93 ew93 => ?_))
            refine lv_lstore (lv' := [(5, .long w93), (0, .ref u0), (1, .int u1), (2, .int u2), (3, .int u3), (4, .int u4)]) hx hb dX11_reflected_108 hl (by decide) rfl (fun ls hl => ?_)
            refine lv_lload hx hb dX11_reflected_110 (lv_at hl 0 rfl) ?_
            refine lv_ldc2 (v := 1000003) hx hb hown (hts _ w_1719) dX11_reflected_112 ?_
            refine k_l (r_S C h hl (As := [.long w93, .long 1000003]) (rest := []) (s_J9_floorMod_f86c9 l D G b0 τ f63 tf63 w93 1000003 (ivl_w (ivl_k (x := 1000003) (k := 1000003) rfl) (by decide))) mk_J9_floorMod_f86c9 w_1788 w_1789 w_1790 ⟨Nat.le_of_ble_eq_true rfl, Nat.le_of_ble_eq_true rfl⟩ rfl (Nat.le_of_ble_eq_true rfl) ⟨Nat.le_of_ble_eq_true rfl, Nat.le_of_ble_eq_true rfl⟩ rfl dX11_reflected_115) h (fun r94 f95 H locs p96 h => ?_)
            obtain ⟨tf95, ogf95⟩ := p96
            have egf95 := Fr.nil2 ogf95
            subst egf95
            refine lv_l2i hx hb dX11_reflected_118 rfl (i_top (iv_any _) (fun z97 ez97 iz97 => ?_))
            exact u_iret C h hr hQ (⟨iz97, tf63, of63⟩) (Nat.le_of_ble_eq_true rfl) (Nat.le_of_ble_eq_true rfl) dX11_reflected_119
          · have c59 : r53.toInt = 0 := congrArg Int32.toInt c56
            have i60 : iv r53 0 0 := iv_Q c59 ir53 (iv_k (x := 0) (k := 0) rfl) (by decide)
            refine lv_ldcw (v := -1000000) hx hb hown (hts _ w_1787) dX11_reflected_53 ?_
            exact u_iret C h hr hQ (⟨⟨by decide, by decide⟩, tf1, of1⟩) (Nat.le_of_ble_eq_true rfl) (Nat.le_of_ble_eq_true rfl) dX11_reflected_56
abbrev rm_s_X10_alike : Room := { frames := 6, cells := 2, slots := 610, locals := 132 }
set_option maxRecDepth 100000 in
set_option maxHeartbeats 4000000 in
theorem s_X10_alike (l : Launch) (D : va_G) (G : Nat → Nat) (b0 : Nat) (τ : Nat → Nat) (f : hM) (t : TI G 9 τ f) (u0 : Nat) (hu0 : τ u0 = 10) (u1 : Int32) (hu1 : iv u1 (-2147483648) 2147483647) (gq rq mq : Nat) (hgq : τ gq = 20) (kq2 : atp f u0 (fd 2 (.ref gq))) (hGJ : GJ τ f gq rq mq) : mI l yX10_alike cX10_alike 5 (.int) rm_s_X10_alike D G b0 f [.ref u0, .int u1] (fun r f1 => (∃ τ1, Ex τ τ1 ∧ iv r (-1) 7 ∧ TI G 9 τ1 f1 ∧ Fr [0, 1, 3, 20, 21, 22, 23, 24, 25, 1004, 20001, 20002, 20007, 20008, 20009, 20010, 20011, 22001, 22002, 22003, 22004, 23001, 23002, 23003, 23004] τ f f1 ∧ GJ τ1 f1 gq rq mq)) := by
  refine met2 (own := RX10) (by decide) rfl (Nat.le_of_ble_eq_true rfl) ?_
  intro p e s m args below meth c ls Q hQ C hr hini hl h
  have hl : lv_has ls 5 [(0, .ref u0), (1, .int u1)] := hl
  obtain ⟨hx, hb, hml, hown, hts, hE0, hlk⟩ := id C
  have o := Fr.rf [0, 1, 3, 20, 21, 22, 23, 24, 25, 1004, 20001, 20002, 20007, 20008, 20009, 20010, 20011, 22001, 22002, 22003, 22004, 23001, 23002, 23003, 23004] τ f
  refine lv_aload_n hx hb dX10_alike_0 rfl (lv_at hl 0 rfl) ?_
  refine t_getr (tq := 12) C h t hu0 (by decide) wf_10 rfl fl_X10_19 dX10_alike_1 (fun qa_1 tqa_1 => ?_)
  refine lv_iload_n hx hb dX10_alike_4 rfl (lv_at hl 1 rfl) ?_
  obtain ⟨_, ra_2⟩ := t_rec t tqa_1 (by decide) wf_12
  refine k_q (r_V C h hl (As := [.int u1]) (rest := []) (s_X0_findN l D G b0 τ f t qa_1 tqa_1 u1 hu1) ra_2 (Cn := RX0) (T := TX0) (N := 6) rfl rfl mk_X0_find w_594 w_595 w_596 w_597 ⟨Nat.le_of_ble_eq_true rfl, Nat.le_of_ble_eq_true rfl⟩ rfl (Nat.le_of_ble_eq_true rfl) ⟨Nat.le_of_ble_eq_true rfl, Nat.le_of_ble_eq_true rfl⟩ rfl dX10_alike_5) h (fun ra_3 fa_4 H locs pa_5 h => ?_)
  obtain ⟨qra_3, tfa_4, ogfa_4, ocra_3⟩ := pa_5
  have egfa_4 := Fr.nil2 ogfa_4
  subst egfa_4
  have tra_3 := qra_3
  refine lv_astore_nO (lv' := [(2, va_rf ra_3), (0, .ref u0), (1, .int u1)]) hx hb dX10_alike_8 rfl hl (by decide) rfl (fun ls hl => ?_)
  refine lv_aload_nO hx hb dX10_alike_9 rfl (lv_at hl 0 rfl) ?_
  rcases va_rfc ra_3 with eqa_7 | ⟨qa_7, eqa_7⟩
  · subst eqa_7
    have hl : lv_has ls 5 [(2, .null), (0, .ref u0), (1, .int u1)] := hl
    show W _ _ _ _ _ _ _ _ _ _ _ _ _ _ _ (F0 m 10 ls [.null])
    refine lv_ifnonnullN hx hb dX10_alike_10 ?_
    refine lv_iconst (v := -1) hx hb dX10_alike_13 (by decide) ?_
    exact u_iret C h hr hQ (⟨τ, (Ex.rf τ), ⟨by decide, by decide⟩, t, o, hGJ⟩) (Nat.le_of_ble_eq_true rfl) (Nat.le_of_ble_eq_true rfl) dX10_alike_14
  · subst eqa_7
    have tqa_7 : τ qa_7 = 1 := tra_3 _ rfl
    have ia_8 : iv u1 0 7 := ocra_3 _ rfl
    have hl : lv_has ls 5 [(2, .ref qa_7), (0, .ref u0), (1, .int u1)] := hl
    show W _ _ _ _ _ _ _ _ _ _ _ _ _ _ _ (F0 m 10 ls [.ref qa_7])
    refine lv_ifnonnull (tgt := 15) hx hb dX10_alike_10 (by decide) ?_
    refine lv_iconst (v := 0) hx hb dX10_alike_15 (by decide) ?_
    refine lv_istore_n (lv' := [(3, .int 0), (2, .ref qa_7), (0, .ref u0), (1, .int u1)]) hx hb dX10_alike_16 rfl hl (by decide) rfl (fun ls hl => ?_)
    have L17 : ∀ (n17 : Nat) (ls : Array Slot) (f_17 : hM) (H : Heap) (locs : List Loc) (v17_3 : Int32), 8 - v17_3.toInt < (n17 : Int) → lv_has ls 5 [(0, .ref u0), (1, .int u1), (2, .ref qa_7), (3, .int v17_3)] → hw D b0 s.heap f_17 H locs → TI G 9 τ f_17 → Fr [0, 1, 3, 20, 21, 22, 23, 24, 25, 1004, 20001, 20002, 20007, 20008, 20009, 20010, 20011, 22001, 22002, 22003, 22004, 23001, 23002, 23003, 23004] τ f f_17 → iv u1 0 7 → iv v17_3 0 8 → atp f_17 u0 (fd 2 (.ref gq)) → GJ τ f_17 gq rq mq → W p l e rm_s_X10_alike s m args below meth c H locs 0 0 Q (F0 m 17 ls []) := by
      intro n17
      induction n17 with
      | zero => intro ls f_17 H locs v17_3 hm17 hl h t_17 o_17 jv17_1 iv17_3 k17_u0_2 k17_gq_GJ; exact absurd hm17 (by omega)
      | succ n17 ih17 =>
        intro ls f_17 H locs v17_3 hm17 hl h t_17 o_17 jv17_1 iv17_3 k17_u0_2 k17_gq_GJ
        refine lv_iload_n hx hb dX10_alike_17 rfl (lv_at hl 3 rfl) ?_
        refine lv_iload_n hx hb dX10_alike_18 rfl (lv_at hl 1 rfl) ?_
        refine lv_icmp_ge (tgt := 62) hx hb dX10_alike_19 (by decide) (fun cab17_1 => ?_) (fun cab17_1 => ?_)
        · have cab17_2 : u1.toInt ≤ v17_3.toInt := Int32.le_iff_toInt_le.mp cab17_1
          refine lv_iload_n hx hb dX10_alike_62 rfl (lv_at hl 1 rfl) ?_
          exact u_iret C h hr hQ (⟨τ, (Ex.rf τ), (iv_w jv17_1 (by decide)), t_17, o_17, k17_gq_GJ⟩) (Nat.le_of_ble_eq_true rfl) (Nat.le_of_ble_eq_true rfl) dX10_alike_63
        · have cab17_2 : v17_3.toInt < u1.toInt := Int32.lt_iff_toInt_lt.mp (iv_nle cab17_1)
          have iab17_3 : iv v17_3 0 6 := iv_Ll cab17_2 iv17_3 jv17_1 (by decide)
          have iab17_4 : iv u1 1 7 := iv_Lr cab17_2 iv17_3 jv17_1 (by decide)
          refine lv_aload_n hx hb dX10_alike_22 rfl (lv_at hl 0 rfl) ?_
          refine t_getr (tq := 12) C h t_17 hu0 (by decide) wf_10 rfl fl_X10_19 dX10_alike_23 (fun qab17_5 tqab17_5 => ?_)
          refine lv_iload_n hx hb dX10_alike_26 rfl (lv_at hl 3 rfl) ?_
          obtain ⟨_, rab17_6⟩ := t_rec t_17 tqab17_5 (by decide) wf_12
          refine k_q (r_V C h hl (As := [.int v17_3]) (rest := []) (s_X0_findN l D G b0 τ f_17 t_17 qab17_5 tqab17_5 v17_3 (iv_w iab17_3 (by decide))) rab17_6 (Cn := RX0) (T := TX0) (N := 6) rfl rfl mk_X0_find w_594 w_595 w_596 w_597 ⟨Nat.le_of_ble_eq_true rfl, Nat.le_of_ble_eq_true rfl⟩ rfl (Nat.le_of_ble_eq_true rfl) ⟨Nat.le_of_ble_eq_true rfl, Nat.le_of_ble_eq_true rfl⟩ rfl dX10_alike_27) h (fun rab17_7 fab17_8 H locs pab17_9 h => ?_)
          obtain ⟨qrab17_7, tfab17_8, ogfab17_8, ocrab17_7⟩ := pab17_9
          have egfab17_8 := Fr.nil2 ogfab17_8
          subst egfab17_8
          have trab17_7 := qrab17_7
          refine lv_astoreO (lv' := [(4, va_rf rab17_7), (0, .ref u0), (1, .int u1), (2, .ref qa_7), (3, .int v17_3)]) hx hb dX10_alike_30 hl (by decide) rfl (fun ls hl => ?_)
          refine lv_aloadO hx hb dX10_alike_32 (lv_at hl 0 rfl) ?_
          rcases va_rfc rab17_7 with eqab17_11 | ⟨qab17_11, eqab17_11⟩
          · subst eqab17_11
            have hl : lv_has ls 5 [(4, .null), (0, .ref u0), (1, .int u1), (2, .ref qa_7), (3, .int v17_3)] := hl
            show W _ _ _ _ _ _ _ _ _ _ _ _ _ _ _ (F0 m 34 ls [.null])
            refine lv_ifnullN (tgt := 56) hx hb dX10_alike_34 (by decide) ?_
            refine i_inc hx hb dX10_alike_56 hl (k := 4) rfl iab17_3 rfl (lo := 1) (hi := 7) (by decide) (by decide) (lv' := fun v => [(3, .int v), (4, .null), (0, .ref u0), (1, .int u1), (2, .ref qa_7)]) (fun _ => rfl) (fun zab17_12 ls ezab17_12 mzab17_12 izab17_12 hl => ?_)
            refine lv_goto (tgt := 17) hx hb dX10_alike_59 (by decide) ?_
            exact ih17 ls f_17 H locs zab17_12 (show 8 - zab17_12.toInt < _ by omega) (lv_cons hl 2 rfl (lv_cons hl 3 rfl (lv_cons hl 4 rfl (lv_cons hl 0 rfl (lv_nil hl))))) h t_17 o_17 (iv_w iab17_4 (by decide)) (iv_w izab17_12 (by decide)) k17_u0_2 k17_gq_GJ
          · subst eqab17_11
            have tqab17_11 : τ qab17_11 = 1 := trab17_7 _ rfl
            have iab17_12 : iv v17_3 0 7 := ocrab17_7 _ rfl
            have hl : lv_has ls 5 [(4, .ref qab17_11), (0, .ref u0), (1, .int u1), (2, .ref qa_7), (3, .int v17_3)] := hl
            show W _ _ _ _ _ _ _ _ _ _ _ _ _ _ _ (F0 m 34 ls [.ref qab17_11])
            refine lv_ifnull hx hb dX10_alike_34 ?_
            refine lv_aload_n hx hb dX10_alike_37 rfl (lv_at hl 1 rfl) ?_
            refine lv_aload hx hb dX10_alike_38 (lv_at hl 0 rfl) ?_
            obtain ⟨_, rab17_13⟩ := t_rec t_17 hu0 (by decide) wf_10
            refine k_q (r_V C h hl (As := [.ref qab17_11]) (rest := []) (s_X10_terms l D G b0 τ f_17 t_17 u0 hu0 qab17_11 tqab17_11 gq rq mq hgq k17_u0_2 k17_gq_GJ) rab17_13 (Cn := RX10) (T := TX10) (N := 10) rfl rfl mk_X10_terms w_728 w_730 w_18 w_731 ⟨Nat.le_of_ble_eq_true rfl, Nat.le_of_ble_eq_true rfl⟩ rfl (Nat.le_of_ble_eq_true rfl) ⟨Nat.le_of_ble_eq_true rfl, Nat.le_of_ble_eq_true rfl⟩ rfl dX10_alike_40) h (fun rab17_14 fab17_15 H locs pab17_16 h => ?_)
            obtain ⟨τfab17_15, exfab17_15, qrab17_14, tfab17_15, ogfab17_15, x0rab17_14, gjfab17_15⟩ := pab17_16
            have ofab17_15 : Fr [0, 1, 3, 20, 21, 22, 23, 24, 25, 1004, 20001, 20002, 20007, 20008, 20009, 20010, 20011, 22001, 22002, 22003, 22004, 23001, 23002, 23003, 23004] τ f fab17_15 := Fr.tr o_17 ogfab17_15 (by decide) (by decide)
            have kab17_17 := atp.fr k17_u0_2 ogfab17_15 hu0 (by decide)
            have Ofab17_15 : Fr [0, 1, 3, 20, 21, 22, 23, 24, 25, 1004, 20001, 20002, 20007, 20008, 20009, 20010, 20011, 22001, 22002, 22003, 22004, 23001, 23002, 23003, 23004] τ f fab17_15 := ofab17_15
            have xfab17_15 : Ex τ τfab17_15 := exfab17_15
            have hab17_18 : τfab17_15 u0 = 10 := Ex.at exfab17_15 hu0 (by decide)
            have hab17_19 : τfab17_15 qa_7 = 1 := Ex.at exfab17_15 tqa_7 (by decide)
            have hab17_20 : τfab17_15 qab17_11 = 1 := Ex.at exfab17_15 tqab17_11 (by decide)
            have hab17_21 : τfab17_15 gq = 20 := Ex.at exfab17_15 hgq (by decide)
            have ofab17_15z := Fr.rf [0, 1, 3, 20, 21, 22, 23, 24, 25, 1004, 20001, 20002, 20007, 20008, 20009, 20010, 20011, 22001, 22002, 22003, 22004, 23001, 23002, 23003, 23004] τfab17_15 fab17_15
            obtain ⟨qab17_22, rfl, tqab17_22, ktqab17_22⟩ := qrab17_14
            refine lv_aload_n hx hb dX10_alike_43 rfl (lv_at hl 1 rfl) ?_
            refine lv_aload_n hx hb dX10_alike_44 rfl (lv_at hl 3 rfl) ?_
            obtain ⟨_, rab17_23⟩ := t_rec tfab17_15 hab17_18 (by decide) wf_10
            refine k_q (r_V C h hl (As := [.ref qa_7]) (rest := [.ref qab17_22]) (s_X10_terms l D G b0 τfab17_15 fab17_15 tfab17_15 u0 hab17_18 qa_7 hab17_19 gq rq mq hab17_21 kab17_17 gjfab17_15) rab17_23 (Cn := RX10) (T := TX10) (N := 10) rfl rfl mk_X10_terms w_728 w_730 w_18 w_731 ⟨Nat.le_of_ble_eq_true rfl, Nat.le_of_ble_eq_true rfl⟩ rfl (Nat.le_of_ble_eq_true rfl) ⟨Nat.le_of_ble_eq_true rfl, Nat.le_of_ble_eq_true rfl⟩ rfl dX10_alike_45) h (fun rab17_24 fab17_25 H locs pab17_26 h => ?_)
            obtain ⟨τfab17_25, exfab17_25, qrab17_24, tfab17_25, ogfab17_25, x0rab17_24, gjfab17_25⟩ := pab17_26
            have ofab17_25 : Fr [0, 1, 3, 20, 21, 22, 23, 24, 25, 1004, 20001, 20002, 20007, 20008, 20009, 20010, 20011, 22001, 22002, 22003, 22004, 23001, 23002, 23003, 23004] τfab17_15 fab17_15 fab17_25 := Fr.tr ofab17_15z ogfab17_25 (by decide) (by decide)
            have kab17_27 := atp.fr kab17_17 ogfab17_25 hab17_18 (by decide)
            have kab17_28 := x0rab17_24 _ _ hab17_20 ktqab17_22
            have Ofab17_25 : Fr [0, 1, 3, 20, 21, 22, 23, 24, 25, 1004, 20001, 20002, 20007, 20008, 20009, 20010, 20011, 22001, 22002, 22003, 22004, 23001, 23002, 23003, 23004] τ f fab17_25 := Fr.tr Ofab17_15 (Fr.cv xfab17_15 ofab17_25 (by decide) (fun _ h_ => h_)) (fun _ h_ => h_) (fun _ h_ => h_)
            have xfab17_25 : Ex τ τfab17_25 := Ex.tr xfab17_15 exfab17_25
            have hab17_29 : τfab17_25 qab17_22 = 3 := Ex.at exfab17_25 tqab17_22 (by decide)
            have hab17_30 : τfab17_25 u0 = 10 := Ex.at exfab17_25 hab17_18 (by decide)
            have hab17_31 : τfab17_25 qa_7 = 1 := Ex.at exfab17_25 hab17_19 (by decide)
            have hab17_32 : τfab17_25 qab17_11 = 1 := Ex.at exfab17_25 hab17_20 (by decide)
            have hab17_33 : τfab17_25 gq = 20 := Ex.at exfab17_25 hab17_21 (by decide)
            have ofab17_25z := Fr.rf [0, 1, 3, 20, 21, 22, 23, 24, 25, 1004, 20001, 20002, 20007, 20008, 20009, 20010, 20011, 22001, 22002, 22003, 22004, 23001, 23002, 23003, 23004] τfab17_25 fab17_25
            obtain ⟨qab17_34, rfl, tqab17_34, ktqab17_34⟩ := qrab17_24
            refine k_i (r_S C h hl (As := [.ref qab17_22, .ref qab17_34]) (rest := []) (s_X10_areAlike l D G b0 τfab17_25 fab17_25 tfab17_25 qab17_22 hab17_29 qab17_34 tqab17_34) mk_X10_areAlike w_1019 w_1020 w_1021 ⟨Nat.le_of_ble_eq_true rfl, Nat.le_of_ble_eq_true rfl⟩ rfl (Nat.le_of_ble_eq_true rfl) ⟨Nat.le_of_ble_eq_true rfl, Nat.le_of_ble_eq_true rfl⟩ rfl dX10_alike_48) h (fun rab17_35 fab17_36 H locs pab17_37 h => ?_)
            obtain ⟨irab17_35, tfab17_36, ogfab17_36⟩ := pab17_37
            have egfab17_36 := Fr.nil2 ogfab17_36
            subst egfab17_36
            refine lv_if_eq (tgt := 56) hx hb dX10_alike_51 (by decide) (fun cab17_38 => ?_) (fun cab17_38 => ?_)
            · have cab17_39 : rab17_35.toInt = 0 := congrArg Int32.toInt cab17_38
              have iab17_40 : iv rab17_35 0 0 := iv_Q cab17_39 irab17_35 (iv_k (x := 0) (k := 0) rfl) (by decide)
              refine i_inc hx hb dX10_alike_56 hl (k := 4) rfl iab17_12 rfl (lo := 1) (hi := 8) (by decide) (by decide) (lv' := fun v => [(3, .int v), (4, .ref qab17_11), (0, .ref u0), (1, .int u1), (2, .ref qa_7)]) (fun _ => rfl) (fun zab17_41 ls ezab17_41 mzab17_41 izab17_41 hl => ?_)
              refine lv_goto (tgt := 17) hx hb dX10_alike_59 (by decide) ?_
              exact ih17 ls fab17_25 H locs zab17_41 (show 8 - zab17_41.toInt < _ by omega) (lv_cons hl 2 rfl (lv_cons hl 3 rfl (lv_cons hl 4 rfl (lv_cons hl 0 rfl (lv_nil hl))))) h tfab17_25 ofab17_25z (iv_w iab17_4 (by decide)) (iv_w izab17_41 (by decide)) kab17_27 gjfab17_25
            · have cab17_39 : rab17_35.toInt ≠ 0 := fun z_ => cab17_38 (Int32.toInt_inj.mp z_)
              have iab17_40 : iv rab17_35 1 1 := iv_Nl cab17_39 irab17_35 (by decide)
              refine lv_iload_n hx hb dX10_alike_54 rfl (lv_at hl 4 rfl) ?_
              exact u_iret C h hr hQ (⟨τfab17_25, xfab17_25, (iv_w iab17_12 (by decide)), tfab17_25, (Fr.tr Ofab17_25 (Fr.cv xfab17_25 ofab17_25z (by decide) (fun _ h_ => h_)) (fun _ h_ => h_) (fun _ h_ => h_)), gjfab17_25⟩) (Nat.le_of_ble_eq_true rfl) (Nat.le_of_ble_eq_true rfl) dX10_alike_55
    exact L17 9 ls f H locs 0 (by decide) (lv_cons hl 2 rfl (lv_cons hl 3 rfl (lv_cons hl 1 rfl (lv_cons hl 0 rfl (lv_nil hl))))) h t o ia_8 ⟨by decide, by decide⟩ kq2 hGJ
