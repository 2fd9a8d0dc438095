theorem dJ9_floorMod_f86c9_0 : decode cJ9_floorMod_f86c9 0 = .ok (.lload_n 0, 1) := by decide +kernel
theorem dJ9_floorMod_f86c9_1 : decode cJ9_floorMod_f86c9 1 = .ok (.lload_n 2, 1) := by decide +kernel
theorem dJ9_floorMod_f86c9_2 : decode cJ9_floorMod_f86c9 2 = .ok (.lrem, 1) := by decide +kernel
theorem dJ9_floorMod_f86c9_3 : decode cJ9_floorMod_f86c9 3 = .ok (.lstore 4, 2) := by decide +kernel
theorem dJ9_floorMod_f86c9_5 : decode cJ9_floorMod_f86c9 5 = .ok (.lload_n 0, 1) := by decide +kernel
theorem dJ9_floorMod_f86c9_6 : decode cJ9_floorMod_f86c9 6 = .ok (.lload_n 2, 1) := by decide +kernel
theorem dJ9_floorMod_f86c9_7 : decode cJ9_floorMod_f86c9 7 = .ok (.lxor, 1) := by decide +kernel
theorem dJ9_floorMod_f86c9_8 : decode cJ9_floorMod_f86c9 8 = .ok (.lconst 0, 1) := by decide +kernel
theorem dJ9_floorMod_f86c9_9 : decode cJ9_floorMod_f86c9 9 = .ok (.lcmp, 1) := by decide +kernel
theorem dJ9_floorMod_f86c9_10 : decode cJ9_floorMod_f86c9 10 = .ok (.ifCond .ge 15, 3) := by decide +kernel
theorem dJ9_floorMod_f86c9_25 : decode cJ9_floorMod_f86c9 25 = .ok (.lload 4, 2) := by decide +kernel
theorem dJ9_floorMod_f86c9_13 : decode cJ9_floorMod_f86c9 13 = .ok (.lload 4, 2) := by decide +kernel
theorem dJ9_floorMod_f86c9_15 : decode cJ9_floorMod_f86c9 15 = .ok (.lconst 0, 1) := by decide +kernel
theorem dJ9_floorMod_f86c9_16 : decode cJ9_floorMod_f86c9 16 = .ok (.lcmp, 1) := by decide +kernel
theorem dJ9_floorMod_f86c9_17 : decode cJ9_floorMod_f86c9 17 = .ok (.ifCond .eq 8, 3) := by decide +kernel
theorem dJ9_floorMod_f86c9_20 : decode cJ9_floorMod_f86c9 20 = .ok (.lload 4, 2) := by decide +kernel
theorem dJ9_floorMod_f86c9_22 : decode cJ9_floorMod_f86c9 22 = .ok (.lload_n 2, 1) := by decide +kernel
theorem dJ9_floorMod_f86c9_23 : decode cJ9_floorMod_f86c9 23 = .ok (.ladd, 1) := by decide +kernel
theorem dJ9_floorMod_f86c9_27 : decode cJ9_floorMod_f86c9 27 = .ok (.lreturn, 1) := by decide +kernel
theorem dJ9_floorMod_f86c9_24 : decode cJ9_floorMod_f86c9 24 = .ok (.lreturn, 1) := by decide +kernel
theorem w_1788 : Cond.methodLink "QuarterWalksModel" 287 yJ9_floorMod_f86c9 ∈ wAll := wI8 13 (by decide +kernel) (by decide +kernel)
theorem mk_J9_floorMod_f86c9 : mk yJ9_floorMod_f86c9 2 := ⟨by decide +kernel, w_112⟩
theorem w_1789 : Cond.static yJ9_floorMod_f86c9 ∈ wAll := wI8 14 (by decide +kernel) (by decide +kernel)
theorem w_1790 : Cond.code yJ9_floorMod_f86c9 cJ9_floorMod_f86c9 6 (some .long) ∈ wAll := wI8 15 (by decide +kernel) (by decide +kernel)
theorem dX11_reflected_118 : decode cX11_reflected 118 = .ok (.l2i, 1) := by decide +kernel
theorem dX11_reflected_56 : decode cX11_reflected 56 = .ok (.ireturn, 1) := by decide +kernel
theorem dX11_reflected_119 : decode cX11_reflected 119 = .ok (.ireturn, 1) := by decide +kernel
theorem dX10_alike_0 : decode cX10_alike 0 = .ok (.aload_n 0, 1) := by decide +kernel
theorem dX10_alike_1 : decode cX10_alike 1 = .ok (.getfield 19, 3) := by decide +kernel
theorem dX10_alike_4 : decode cX10_alike 4 = .ok (.iload_n 1, 1) := by decide +kernel
theorem dX10_alike_5 : decode cX10_alike 5 = .ok (.invokevirtual 110, 3) := by decide +kernel
theorem dX10_alike_8 : decode cX10_alike 8 = .ok (.astore_n 2, 1) := by decide +kernel
theorem dX10_alike_9 : decode cX10_alike 9 = .ok (.aload_n 2, 1) := by decide +kernel
theorem dX10_alike_10 : decode cX10_alike 10 = .ok (.ifnonnull 5, 3) := by decide +kernel
theorem dX10_alike_13 : decode cX10_alike 13 = .ok (.iconst (-1), 1) := by decide +kernel
theorem dX10_alike_15 : decode cX10_alike 15 = .ok (.iconst 0, 1) := by decide +kernel
theorem dX10_alike_16 : decode cX10_alike 16 = .ok (.istore_n 3, 1) := by decide +kernel
theorem dX10_alike_17 : decode cX10_alike 17 = .ok (.iload_n 3, 1) := by decide +kernel
theorem dX10_alike_18 : decode cX10_alike 18 = .ok (.iload_n 1, 1) := by decide +kernel
theorem dX10_alike_19 : decode cX10_alike 19 = .ok (.if_icmp .ge 43, 3) := by decide +kernel
theorem dX10_alike_62 : decode cX10_alike 62 = .ok (.iload_n 1, 1) := by decide +kernel
theorem dX10_alike_22 : decode cX10_alike 22 = .ok (.aload_n 0, 1) := by decide +kernel
theorem dX10_alike_23 : decode cX10_alike 23 = .ok (.getfield 19, 3) := by decide +kernel
theorem dX10_alike_26 : decode cX10_alike 26 = .ok (.iload_n 3, 1) := by decide +kernel
theorem dX10_alike_27 : decode cX10_alike 27 = .ok (.invokevirtual 110, 3) := by decide +kernel
theorem dX10_alike_30 : decode cX10_alike 30 = .ok (.astore 4, 2) := by decide +kernel
theorem dX10_alike_32 : decode cX10_alike 32 = .ok (.aload 4, 2) := by decide +kernel
theorem dX10_alike_34 : decode cX10_alike 34 = .ok (.ifnull 22, 3) := by decide +kernel
theorem dX10_alike_37 : decode cX10_alike 37 = .ok (.aload_n 0, 1) := by decide +kernel
theorem dX10_alike_38 : decode cX10_alike 38 = .ok (.aload 4, 2) := by decide +kernel
theorem dX10_alike_40 : decode cX10_alike 40 = .ok (.invokevirtual 320, 3) := by decide +kernel
theorem dX10_alike_43 : decode cX10_alike 43 = .ok (.aload_n 0, 1) := by decide +kernel
theorem dX10_alike_44 : decode cX10_alike 44 = .ok (.aload_n 2, 1) := by decide +kernel
theorem dX10_alike_45 : decode cX10_alike 45 = .ok (.invokevirtual 320, 3) := by decide +kernel
theorem dX10_alike_48 : decode cX10_alike 48 = .ok (.invokestatic 324, 3) := by decide +kernel
theorem w_1019 : Cond.methodLink "QuarterWalks" 324 yX10_areAlike ∈ wAll := wI4 204 (by decide +kernel) (by decide +kernel)
theorem mk_X10_areAlike : mk yX10_areAlike 2 := ⟨by decide +kernel, w_96⟩
theorem w_1020 : Cond.static yX10_areAlike ∈ wAll := wI4 205 (by decide +kernel) (by decide +kernel)
theorem w_1021 : Cond.code yX10_areAlike cX10_areAlike 3 (some .boolean) ∈ wAll := wI4 206 (by decide +kernel) (by decide +kernel)
theorem dX10_alike_51 : decode cX10_alike 51 = .ok (.ifCond .eq 5, 3) := by decide +kernel
theorem dX10_alike_56 : decode cX10_alike 56 = .ok (.iinc 3 1, 3) := by decide +kernel
theorem dX10_alike_59 : decode cX10_alike 59 = .ok (.goto (-42), 3) := by decide +kernel
theorem dX10_alike_54 : decode cX10_alike 54 = .ok (.iload_n 3, 1) := by decide +kernel
theorem dX10_alike_14 : decode cX10_alike 14 = .ok (.ireturn, 1) := by decide +kernel
theorem dX10_alike_63 : decode cX10_alike 63 = .ok (.ireturn, 1) := by decide +kernel
theorem dX10_alike_55 : decode cX10_alike 55 = .ok (.ireturn, 1) := by decide +kernel
abbrev rm_s_J9_floorMod_f86c9 : Room := { frames := 0, cells := 0, slots := 0, locals := 0 }
set_option maxRecDepth 100000 in
set_option maxHeartbeats 4000000 in
theorem s_J9_floorMod_f86c9 (l : Launch) (D : va_G) (G : Nat → Nat) (b0 : Nat) (τ : Nat → Nat) (f : hM) (t : TI G 9 τ f) (u0 : Int64) (u1 : Int64) (hu1 : ivl u1 1000003 1000003) : mL l yJ9_floorMod_f86c9 cJ9_floorMod_f86c9 6 rm_s_J9_floorMod_f86c9 D G b0 f [.long u0, .long u1] (fun r f1 => TI G 9 τ f1 ∧ Fr [] τ f f1) := by
  refine met2F (own := RJ9) (by decide +kernel) rfl (Nat.le_of_ble_eq_true rfl) ?_
  intro p e s m args below meth c ls Q hQ C hr hini hl h
  have hl : lv_has ls 6 [(0, .long u0), (2, .long u1)] := hl
  obtain ⟨hx, hb, hml, hown, hts, hE0, hlk⟩ := id C
  have o := Fr.rf [] τ f
  refine lv_lload_n hx hb dJ9_floorMod_f86c9_0 rfl (lv_at hl 0 rfl) ?_
  refine lv_lload_n hx hb dJ9_floorMod_f86c9_1 rfl (lv_at hl 1 rfl) ?_
  refine lv_lrem hx hb dJ9_floorMod_f86c9_2 (ivl_nz hu1 (by decide)) (lv_topl (fun w1 ew1 => ?_))
  refine lv_lstore (lv' := [(4, .long w1), (0, .long u0), (2, .long u1)]) hx hb dJ9_floorMod_f86c9_3 hl (by decide) rfl (fun ls hl => ?_)
  refine lv_lload_n hx hb dJ9_floorMod_f86c9_5 rfl (lv_at hl 1 rfl) ?_
  refine lv_lload_n hx hb dJ9_floorMod_f86c9_6 rfl (lv_at hl 2 rfl) ?_
  refine lv_lxor hx hb dJ9_floorMod_f86c9_7 (lv_topl (fun w2 ew2 => ?_))
  refine lv_lconst (v := 0) hx hb dJ9_floorMod_f86c9_8 (by decide) ?_
  refine W.lcmp hx hb dJ9_floorMod_f86c9_9 (i_topc (fun z3 ez3 mz3 iz3 => ?_))
  refine lv_if_ge (tgt := 25) hx hb dJ9_floorMod_f86c9_10 (by decide) (fun c4 => ?_) (fun c4 => ?_)
  · have c5 : 0 ≤ z3.toInt := Int32.le_iff_toInt_le.mp c4
    have i6 : iv z3 0 1 := iv_Er c5 (iv_k (x := 0) (k := 0) rfl) iz3 (by decide)
    refine lv_lload hx hb dJ9_floorMod_f86c9_25 (lv_at hl 0 rfl) ?_
    exact u_lret C h hr hQ (⟨t, o⟩) (Nat.le_of_ble_eq_true rfl) (Nat.le_of_ble_eq_true rfl) dJ9_floorMod_f86c9_27
  · have c7 : z3.toInt < 0 := Int32.lt_iff_toInt_lt.mp (iv_nle c4)
    have i8 : iv z3 (-1) (-1) := iv_Ll c7 iz3 (iv_k (x := 0) (k := 0) rfl) (by decide)
    refine lv_lload hx hb dJ9_floorMod_f86c9_13 (lv_at hl 0 rfl) ?_
    refine lv_lconst (v := 0) hx hb dJ9_floorMod_f86c9_15 (by decide) ?_
    refine W.lcmp hx hb dJ9_floorMod_f86c9_16 (i_topc (fun z9 ez9 mz9 iz9 => ?_))
    refine lv_if_eq (tgt := 25) hx hb dJ9_floorMod_f86c9_17 (by decide) (fun c10 => ?_) (fun c10 => ?_)
    · have c11 : z9.toInt = 0 := congrArg Int32.toInt c10
      have i12 : iv z9 0 0 := iv_Q c11 iz9 (iv_k (x := 0) (k := 0) rfl) (by decide)
      refine lv_lload hx hb dJ9_floorMod_f86c9_25 (lv_at hl 0 rfl) ?_
      exact u_lret C h hr hQ (⟨t, o⟩) (Nat.le_of_ble_eq_true rfl) (Nat.le_of_ble_eq_true rfl) dJ9_floorMod_f86c9_27
    · have c13 : z9.toInt ≠ 0 := fun z_ => c10 (Int32.toInt_inj.mp z_)
      refine lv_lload hx hb dJ9_floorMod_f86c9_20 (lv_at hl 0 rfl) ?_
      refine lv_lload_n hx hb dJ9_floorMod_f86c9_22 rfl (lv_at hl 2 rfl) ?_
      refine lv_ladd hx hb dJ9_floorMod_f86c9_23 (lv_topl (fun w14 ew14 => ?_))
      exact u_lret C h hr hQ (⟨t, o⟩) (Nat.le_of_ble_eq_true rfl) (Nat.le_of_ble_eq_true rfl) dJ9_floorMod_f86c9_24
abbrev rm_s_X11_reflected : Room := { frames := 3, cells := 0, slots := 0, locals := 83 }
set_option maxRecDepth 100000 in
set_option maxHeartbeats 4000000 in
theorem s_X11_reflected (l : Launch) (D : va_G) (G : Nat → Nat) (b0 : Nat) (τ : Nat → Nat) (f : hM) (t : TI G 9 τ f) (u0 : Nat) (hu0 : τ u0 = 60) (u1 : Int32) (hu1 : iv u1 (-2147483648) 2147483647) (u2 : Int32) (hu2 : iv u2 (-2147483648) 2147483647) (u3 : Int32) (hu3 : iv u3 (-2147483648) 2147483647) (u4 : Int32) (hu4 : iv u4 (-2147483648) 2147483647) (hNG : NGs τ f u0) : mI l yX11_reflected cX11_reflected 7 (.int) rm_s_X11_reflected D G b0 f [.ref u0, .int u1, .int u2, .int u3, .int u4] (fun r f1 => iv r (-2147483648) 2147483647 ∧ TI G 9 τ f1 ∧ Fr [60, 67, 60001, 60013, 60014, 60015] τ f f1 ∧ NGs τ f1 u0) := by
  refine met2 (own := RX11) (by decide) rfl (Nat.le_of_ble_eq_true rfl) ?_
  intro p e s m args below meth c ls Q hQ C hr hini hl h
  have hl : lv_has ls 7 [(0, .ref u0), (1, .int u1), (2, .int u2), (3, .int u3), (4, .int u4)] := hl
  obtain ⟨hx, hb, hml, hown, hts, hE0, hlk⟩ := id C
  have o := Fr.rf [60, 67, 60001, 60013, 60014, 60015] τ f
  refine lv_aload_n hx hb dX11_reflected_0 rfl (lv_at hl 0 rfl) ?_
  refine lv_iconst (v := 0) hx hb dX11_reflected_1 (by decide) ?_
  refine t_put C h t o hu0 (by decide) (by decide) (by decide) wf_60 fw_60 (k := 0) rfl flw_X11_75 (Or.inr ⟨_, _, _, rfl, rfl⟩) (v := .int 0) rfl rfl ⟨_, rfl, ⟨by decide, by decide⟩⟩ dX11_reflected_2 (fun f1 H locs h tf1 of1 hq ha_ hn_ hk_ => ?_)
  have k2 := NGs.pk hNG hk_ (by decide) (by decide)
  have k3 := ha_
  refine lv_aload_n hx hb dX11_reflected_5 rfl (lv_at hl 0 rfl) ?_
  refine lv_iload_n hx hb dX11_reflected_6 rfl (lv_at hl 1 rfl) ?_
  obtain ⟨_, r4⟩ := t_rec tf1 hu0 (by decide) wf_60
  refine k_i (r_V C h hl (As := [.int u1]) (rest := []) (s_X11_isSet l D G b0 τ f1 tf1 u0 hu0 u1 hu1) r4 (Cn := RX11) (T := TX11) (N := 32) rfl rfl mk_X11_isSet w_1620 w_1622 w_51 w_1623 ⟨Nat.le_of_ble_eq_true rfl, Nat.le_of_ble_eq_true rfl⟩ rfl (Nat.le_of_ble_eq_true rfl) ⟨Nat.le_of_ble_eq_true rfl, Nat.le_of_ble_eq_true rfl⟩ rfl dX11_reflected_7) h (fun r5 f6 H locs p7 h => ?_)
  obtain ⟨ir5, tf6, ogf6, cnr5⟩ := p7
  have egf6 := Fr.nil2 ogf6
  subst egf6
  refine lv_if_eq (tgt := 53) hx hb dX11_reflected_10 (by decide) (fun c8 => ?_) (fun c8 => ?_)
  · have c9 : r5.toInt = 0 := congrArg Int32.toInt c8
    have i10 : iv r5 0 0 := iv_Q c9 ir5 (iv_k (x := 0) (k := 0) rfl) (by decide)
    refine lv_ldcw (v := -1000000) hx hb hown (hts _ w_1787) dX11_reflected_53 ?_
    exact u_iret C h hr hQ (⟨⟨by decide, by decide⟩, tf1, of1, k2⟩) (Nat.le_of_ble_eq_true rfl) (Nat.le_of_ble_eq_true rfl) dX11_reflected_56
  · have c11 : r5.toInt ≠ 0 := fun z_ => c8 (Int32.toInt_inj.mp z_)
    have i12 : iv r5 1 1 := iv_Nl c11 ir5 (by decide)
    have i13 := cnr5 c11
    refine lv_iload_n hx hb dX11_reflected_13 rfl (lv_at hl 2 rfl) ?_
    refine k_i (r_S C h hl (As := [.int u2]) (rest := []) (s_X11_isLong l D G b0 τ f1 tf1 u2 hu2) mk_X11_isLong w_1689 w_1690 w_1691 ⟨Nat.le_of_ble_eq_true rfl, Nat.le_of_ble_eq_true rfl⟩ rfl (Nat.le_of_ble_eq_true rfl) ⟨Nat.le_of_ble_eq_true rfl, Nat.le_of_ble_eq_true rfl⟩ rfl dX11_reflected_14) h (fun r14 f15 H locs p16 h => ?_)
    obtain ⟨ir14, tf15, ogf15, cnr14⟩ := p16
    have egf15 := Fr.nil2 ogf15
    subst egf15
    refine lv_if_eq (tgt := 53) hx hb dX11_reflected_17 (by decide) (fun c17 => ?_) (fun c17 => ?_)
    · have c18 : r14.toInt = 0 := congrArg Int32.toInt c17
      have i19 : iv r14 0 0 := iv_Q c18 ir14 (iv_k (x := 0) (k := 0) rfl) (by decide)
      refine lv_ldcw (v := -1000000) hx hb hown (hts _ w_1787) dX11_reflected_53 ?_
      exact u_iret C h hr hQ (⟨⟨by decide, by decide⟩, tf1, of1, k2⟩) (Nat.le_of_ble_eq_true rfl) (Nat.le_of_ble_eq_true rfl) dX11_reflected_56
    · have c20 : r14.toInt ≠ 0 := fun z_ => c17 (Int32.toInt_inj.mp z_)
      have i21 : iv r14 1 1 := iv_Nl c20 ir14 (by decide)
      have i22 := cnr14 c20
      refine lv_iload_n hx hb dX11_reflected_20 rfl (lv_at hl 3 rfl) ?_
      refine lv_i2l hx hb dX11_reflected_21 rfl (i_topL hu3 (fun w23 ew23 mw23 iw23 => ?_))
      refine lv_lconst (v := 0) hx hb dX11_reflected_22 (by decide) ?_
      refine lv_ldc2 (v := 60) hx hb hown (hts _ w_1692) dX11_reflected_23 ?_
      refine k_i (r_S C h hl (As := [.long w23, .long 0, .long 60]) (rest := []) (s_X11_isInX l D G b0 τ f1 tf1 w23 0 60) mk_X11_isIn w_1624 w_1625 w_1626 ⟨Nat.le_of_ble_eq_true rfl, Nat.le_of_ble_eq_true rfl⟩ rfl (Nat.le_of_ble_eq_true rfl) ⟨Nat.le_of_ble_eq_true rfl, Nat.le_of_ble_eq_true rfl⟩ rfl dX11_reflected_26) h (fun r24 f25 H locs p26 h => ?_)
      have n27 : (0 : Int64).toInt = 0 := rfl
      have n28 : (60 : Int64).toInt = 60 := rfl
      obtain ⟨ir24, tf25, ogf25, cnr24, czr24⟩ := p26
      have egf25 := Fr.nil2 ogf25
      subst egf25
      refine lv_if_eq (tgt := 53) hx hb dX11_reflected_29 (by decide) (fun c29 => ?_) (fun c29 => ?_)
      · have c30 : r24.toInt = 0 := congrArg Int32.toInt c29
        have i31 : iv r24 0 0 := iv_Q c30 ir24 (iv_k (x := 0) (k := 0) rfl) (by decide)
        have i32 := czr24 c30
        refine lv_ldcw (v := -1000000) hx hb hown (hts _ w_1787) dX11_reflected_53 ?_
        exact u_iret C h hr hQ (⟨⟨by decide, by decide⟩, tf1, of1, k2⟩) (Nat.le_of_ble_eq_true rfl) (Nat.le_of_ble_eq_true rfl) dX11_reflected_56
      · have c33 : r24.toInt ≠ 0 := fun z_ => c29 (Int32.toInt_inj.mp z_)
        have i34 : iv r24 1 1 := iv_Nl c33 ir24 (by decide)
        obtain ⟨i35, i36⟩ := cnr24 c33
        have i37 : iv u3 0 60 := ⟨by omega, by omega⟩
        refine lv_iload hx hb dX11_reflected_32 (lv_at hl 4 rfl) ?_
        refine lv_i2l hx hb dX11_reflected_34 rfl (i_topL hu4 (fun w38 ew38 mw38 iw38 => ?_))
        refine lv_lconst (v := 0) hx hb dX11_reflected_35 (by decide) ?_
        refine lv_ldc2 (v := 60) hx hb hown (hts _ w_1692) dX11_reflected_36 ?_
        refine k_i (r_S C h hl (As := [.long w38, .long 0, .long 60]) (rest := []) (s_X11_isInX l D G b0 τ f1 tf1 w38 0 60) mk_X11_isIn w_1624 w_1625 w_1626 ⟨Nat.le_of_ble_eq_true rfl, Nat.le_of_ble_eq_true rfl⟩ rfl (Nat.le_of_ble_eq_true rfl) ⟨Nat.le_of_ble_eq_true rfl, Nat.le_of_ble_eq_true rfl⟩ rfl dX11_reflected_39) h (fun r39 f40 H locs p41 h => ?_)
        have n42 : (0 : Int64).toInt = 0 := rfl
        have n43 : (60 : Int64).toInt = 60 := rfl
        obtain ⟨ir39, tf40, ogf40, cnr39, czr39⟩ := p41
        have egf40 := Fr.nil2 ogf40
        subst egf40
        refine lv_if_eq (tgt := 53) hx hb dX11_reflected_42 (by decide) (fun c44 => ?_) (fun c44 => ?_)
        · have c45 : r39.toInt = 0 := congrArg Int32.toInt c44
          have i46 : iv r39 0 0 := iv_Q c45 ir39 (iv_k (x := 0) (k := 0) rfl) (by decide)
          have i47 := czr39 c45
          refine lv_ldcw (v := -1000000) hx hb hown (hts _ w_1787) dX11_reflected_53 ?_
          exact u_iret C h hr hQ (⟨⟨by decide, by decide⟩, tf1, of1, k2⟩) (Nat.le_of_ble_eq_true rfl) (Nat.le_of_ble_eq_true rfl) dX11_reflected_56
        · have c48 : r39.toInt ≠ 0 := fun z_ => c44 (Int32.toInt_inj.mp z_)
          have i49 : iv r39 1 1 := iv_Nl c48 ir39 (by decide)
          obtain ⟨i50, i51⟩ := cnr39 c48
          have i52 : iv u4 0 60 := ⟨by omega, by omega⟩
          refine lv_aload_n hx hb dX11_reflected_45 rfl (lv_at hl 0 rfl) ?_
          refine lv_iload_n hx hb dX11_reflected_46 rfl (lv_at hl 1 rfl) ?_
          obtain ⟨_, r53⟩ := t_rec tf1 hu0 (by decide) wf_60
          refine k_i (r_V C h hl (As := [.int u1]) (rest := []) (s_X11_isEven l D G b0 τ f1 tf1 u0 hu0 u1 i13) r53 (Cn := RX11) (T := TX11) (N := 32) rfl rfl mk_X11_isEven w_1783 w_1785 w_66 w_1786 ⟨Nat.le_of_ble_eq_true rfl, Nat.le_of_ble_eq_true rfl⟩ rfl (Nat.le_of_ble_eq_true rfl) ⟨Nat.le_of_ble_eq_true rfl, Nat.le_of_ble_eq_true rfl⟩ rfl dX11_reflected_47) h (fun r54 f55 H locs p56 h => ?_)
          obtain ⟨ir54, tf55, ogf55⟩ := p56
          have egf55 := Fr.nil2 ogf55
          subst egf55
          refine lv_if_ne (tgt := 57) hx hb dX11_reflected_50 (by decide) (fun c57 => ?_) (fun c57 => ?_)
          · have c58 : r54.toInt ≠ 0 := fun z_ => c57 (Int32.toInt_inj.mp z_)
            have i59 : iv r54 1 1 := iv_Nl c58 ir54 (by decide)
            refine lv_aload_n hx hb dX11_reflected_57 rfl (lv_at hl 0 rfl) ?_
            refine lv_iload_n hx hb dX11_reflected_58 rfl (lv_at hl 1 rfl) ?_
            refine lv_iconst (v := 2) hx hb dX11_reflected_59 (by decide) ?_
            refine lv_iconst (v := 1) hx hb dX11_reflected_60 (by decide) ?_
            refine lv_iload_n hx hb dX11_reflected_61 rfl (lv_at hl 2 rfl) ?_
            obtain ⟨_, r62⟩ := t_rec tf1 hu0 (by decide) wf_60
            refine k_v (r_V C h hl (As := [.int u1, .int 2, .int 1, .int u2]) (rest := []) (s_X11_goesOn l D G b0 τ f1 tf1 u0 hu0 u1 i13 2 (iv_w (iv_k (x := 2) (k := 2) rfl) (by decide)) 1 (iv_w (iv_k (x := 1) (k := 1) rfl) (by decide)) u2 i22 k2) r62 (Cn := RX11) (T := TX11) (N := 32) rfl rfl mk_X11_goesOn w_1698 w_1700 w_57 w_1701 ⟨Nat.le_of_ble_eq_true rfl, Nat.le_of_ble_eq_true rfl⟩ rfl (Nat.le_of_ble_eq_true rfl) ⟨Nat.le_of_ble_eq_true rfl, Nat.le_of_ble_eq_true rfl⟩ rfl dX11_reflected_62) h (fun f64 H locs p65 h => ?_)
            have n66 : (2 : Int32).toInt = 2 := rfl
            have n67 : (1 : Int32).toInt = 1 := rfl
            obtain ⟨tf64, ogf64, ⟨gg_f64, kpu0_14f64, ipu0_14f64, rpu0_14f64⟩, ngf64⟩ := p65
            have of64 : Fr [60, 67, 60001, 60013, 60014, 60015] τ f f64 := Fr.tr of1 ogf64 (by decide) (by decide)
            refine lv_aload_n hx hb dX11_reflected_65 rfl (lv_at hl 0 rfl) ?_
            refine lv_iload_n hx hb dX11_reflected_66 rfl (lv_at hl 3 rfl) ?_
            refine lv_iload hx hb dX11_reflected_67 (lv_at hl 4 rfl) ?_
            obtain ⟨_, r68⟩ := t_rec tf64 hu0 (by decide) wf_60
            refine k_l (r_V C h hl (As := [.int u3, .int u4]) (rest := []) (s_X11_gridAt l D G b0 τ f64 tf64 u0 hu0 u3 (iv_w i37 (by decide)) u4 (iv_w i52 (by decide))) r68 (Cn := RX11) (T := TX11) (N := 32) rfl rfl mk_X11_gridAt w_1720 w_1722 w_60 w_1723 ⟨Nat.le_of_ble_eq_true rfl, Nat.le_of_ble_eq_true rfl⟩ rfl (Nat.le_of_ble_eq_true rfl) ⟨Nat.le_of_ble_eq_true rfl, Nat.le_of_ble_eq_true rfl⟩ rfl dX11_reflected_69) h (fun r69 f70 H locs p71 h => ?_)
            obtain ⟨tf70, ogf70⟩ := p71
            have egf70 := Fr.nil2 ogf70
            subst egf70
            refine lv_aload_n hx hb dX11_reflected_72 rfl (lv_at hl 0 rfl) ?_
            refine lv_iload_n hx hb dX11_reflected_73 rfl (lv_at hl 3 rfl) ?_
            refine lv_ineg hx hb dX11_reflected_74 (i_topm (P := fun q_ => q_ = -Int32.toInt u3) (iv_negm i37 (by decide)) (fun z72 ez72 mz72 iz72 => ?_))
            refine lv_iconst (v := 2) hx hb dX11_reflected_75 (by decide) ?_
            refine i_subk hx hb dX11_reflected_76 iz72 (k := 2) rfl (lo := (-62)) (hi := (-2)) (by decide) (fun z73 ez73 mz73 iz73 => ?_)
            refine lv_iload hx hb dX11_reflected_77 (lv_at hl 4 rfl) ?_
            refine lv_ineg hx hb dX11_reflected_79 (i_topm (P := fun q_ => q_ = -Int32.toInt u4) (iv_negm i52 (by decide)) (fun z74 ez74 mz74 iz74 => ?_))
            refine lv_iconst (v := 2) hx hb dX11_reflected_80 (by decide) ?_
            refine i_subk hx hb dX11_reflected_81 iz74 (k := 2) rfl (lo := (-62)) (hi := (-2)) (by decide) (fun z75 ez75 mz75 iz75 => ?_)
            obtain ⟨_, r76⟩ := t_rec tf64 hu0 (by decide) wf_60
            refine k_l (r_V C h hl (As := [.int z73, .int z75]) (rest := [.long r69]) (s_X11_gridAt l D G b0 τ f64 tf64 u0 hu0 z73 (iv_w iz73 (by decide)) z75 (iv_w iz75 (by decide))) r76 (Cn := RX11) (T := TX11) (N := 32) rfl rfl mk_X11_gridAt w_1720 w_1722 w_60 w_1723 ⟨Nat.le_of_ble_eq_true rfl, Nat.le_of_ble_eq_true rfl⟩ rfl (Nat.le_of_ble_eq_true rfl) ⟨Nat.le_of_ble_eq_true rfl, Nat.le_of_ble_eq_true rfl⟩ rfl dX11_reflected_82) h (fun r77 f78 H locs p79 h => ?_)
            obtain ⟨tf78, ogf78⟩ := p79
            have egf78 := Fr.nil2 ogf78
            subst egf78
            refine lv_ladd hx hb dX11_reflected_85 (lv_topl (fun w80 ew80 => ?_))
            refine lv_aload_n hx hb dX11_reflected_86 rfl (lv_at hl 0 rfl) ?_
            refine lv_iload_n hx hb dX11_reflected_87 rfl (lv_at hl 3 rfl) ?_
            refine lv_ineg hx hb dX11_reflected_88 (i_topm (P := fun q_ => q_ = -Int32.toInt u3) (iv_negm i37 (by decide)) (fun z81 ez81 mz81 iz81 => ?_))
            refine lv_iconst (v := 2) hx hb dX11_reflected_89 (by decide) ?_
            refine i_subk hx hb dX11_reflected_90 iz81 (k := 2) rfl (lo := (-62)) (hi := (-2)) (by decide) (fun z82 ez82 mz82 iz82 => ?_)
            refine lv_iload hx hb dX11_reflected_91 (lv_at hl 4 rfl) ?_
            obtain ⟨_, r83⟩ := t_rec tf64 hu0 (by decide) wf_60
            refine k_l (r_V C h hl (As := [.int z82, .int u4]) (rest := [.long w80]) (s_X11_gridAt l D G b0 τ f64 tf64 u0 hu0 z82 (iv_w iz82 (by decide)) u4 (iv_w i52 (by decide))) r83 (Cn := RX11) (T := TX11) (N := 32) rfl rfl mk_X11_gridAt w_1720 w_1722 w_60 w_1723 ⟨Nat.le_of_ble_eq_true rfl, Nat.le_of_ble_eq_true rfl⟩ rfl (Nat.le_of_ble_eq_true rfl) ⟨Nat.le_of_ble_eq_true rfl, Nat.le_of_ble_eq_true rfl⟩ rfl dX11_reflected_93) h (fun r84 f85 H locs p86 h => ?_)
            obtain ⟨tf85, ogf85⟩ := p86
            have egf85 := Fr.nil2 ogf85
            subst egf85
            refine lv_lsub hx hb dX11_reflected_96 (lv_topl (fun w87 ew87 => ?_))
            refine lv_aload_n hx hb dX11_reflected_97 rfl (lv_at hl 0 rfl) ?_
            refine lv_iload_n hx hb dX11_reflected_98 rfl (lv_at hl 3 rfl) ?_
            refine lv_iload hx hb dX11_reflected_99 (lv_at hl 4 rfl) ?_
            refine lv_ineg hx hb dX11_reflected_101 (i_topm (P := fun q_ => q_ = -Int32.toInt u4) (iv_negm i52 (by decide)) (fun z88 ez88 mz88 iz88 => ?_))
            refine lv_iconst (v := 2) hx hb dX11_reflected_102 (by decide) ?_
            refine i_subk hx hb dX11_reflected_103 iz88 (k := 2) rfl (lo := (-62)) (hi := (-2)) (by decide) (fun z89 ez89 mz89 iz89 => ?_)
            obtain ⟨_, r90⟩ := t_rec tf64 hu0 (by decide) wf_60
            refine k_l (r_V C h hl (As := [.int u3, .int z89]) (rest := [.long w87]) (s_X11_gridAt l D G b0 τ f64 tf64 u0 hu0 u3 (iv_w i37 (by decide)) z89 (iv_w iz89 (by decide))) r90 (Cn := RX11) (T := TX11) (N := 32) rfl rfl mk_X11_gridAt w_1720 w_1722 w_60 w_1723 ⟨Nat.le_of_ble_eq_true rfl, Nat.le_of_ble_eq_true rfl⟩ rfl (Nat.le_of_ble_eq_true rfl) ⟨Nat.le_of_ble_eq_true rfl, Nat.le_of_ble_eq_true rfl⟩ rfl dX11_reflected_104) h (fun r91 f92 H locs p93 h => ?_)
            obtain ⟨tf92, ogf92⟩ := p93
            have egf92 := Fr.nil2 ogf92
            subst egf92
            refine lv_lsub hx hb dX11_reflected_107 (lv_topl (fun w94 ew94 => ?_))
            refine lv_lstore (lv' := [(5, .long w94), (0, .ref u0), (1, .int u1), (2, .int u2), (3, .int u3), (4, .int u4)]) hx hb dX11_reflected_108 hl (by decide) rfl (fun ls hl => ?_)
            refine lv_lload hx hb dX11_reflected_110 (lv_at hl 0 rfl) ?_
            refine lv_ldc2 (v := 1000003) hx hb hown (hts _ w_1719) dX11_reflected_112 ?_
            refine k_l (r_S C h hl (As := [.long w94, .long 1000003]) (rest := []) (s_J9_floorMod_f86c9 l D G b0 τ f64 tf64 w94 1000003 (ivl_w (ivl_k (x := 1000003) (k := 1000003) rfl) (by decide))) mk_J9_floorMod_f86c9 w_1788 w_1789 w_1790 ⟨Nat.le_of_ble_eq_true rfl, Nat.le_of_ble_eq_true rfl⟩ rfl (Nat.le_of_ble_eq_true rfl) ⟨Nat.le_of_ble_eq_true rfl, Nat.le_of_ble_eq_true rfl⟩ rfl dX11_reflected_115) h (fun r95 f96 H locs p97 h => ?_)
            obtain ⟨tf96, ogf96⟩ := p97
            have egf96 := Fr.nil2 ogf96
            subst egf96
            refine lv_l2i hx hb dX11_reflected_118 rfl (i_top (iv_any _) (fun z98 ez98 iz98 => ?_))
            exact u_iret C h hr hQ (⟨iz98, tf64, of64, ngf64⟩) (Nat.le_of_ble_eq_true rfl) (Nat.le_of_ble_eq_true rfl) dX11_reflected_119
          · have c60 : r54.toInt = 0 := congrArg Int32.toInt c57
            have i61 : iv r54 0 0 := iv_Q c60 ir54 (iv_k (x := 0) (k := 0) rfl) (by decide)
            refine lv_ldcw (v := -1000000) hx hb hown (hts _ w_1787) dX11_reflected_53 ?_
            exact u_iret C h hr hQ (⟨⟨by decide, by decide⟩, tf1, of1, k2⟩) (Nat.le_of_ble_eq_true rfl) (Nat.le_of_ble_eq_true rfl) dX11_reflected_56
abbrev rm_s_X0_findY : Room := { frames := 1, cells := 0, slots := 0, locals := 22 }
set_option maxRecDepth 100000 in
set_option maxHeartbeats 4000000 in
theorem s_X0_findY (l : Launch) (D : va_G) (G : Nat → Nat) (b0 : Nat) (τ : Nat → Nat) (f : hM) (t : TI G 9 τ f) (u0 : Nat) (hu0 : τ u0 = 12) (u1 : Int32) (hu1 : iv u1 (-2147483648) 2147483647) (sn : Nat) (hsn : τ sn = 15) (k_u0_1 : atp f u0 (fd 1 (.ref sn))) (qn : Nat) (hqn : τ qn = 4) (k_sn_0 : atp f sn (fd 0 (.ref qn))) (sz : Int32) (hsz : iv sz 0 8) (k_sn_1 : atp f sn (fd 1 (.int sz))) (rn : Nat → Option Nat) (hRqn : atp f qn (eqr G 4 8 rn)) : mQ l yX0_find cX0_find 2 (.object "QuarterWalks$StepSet") rm_s_X0_findY D G b0 f [.ref u0, .int u1] (fun r f1 => (∀ z, r = some z → τ z = 1) ∧ TI G 9 τ f1 ∧ Fr [] τ f f1 ∧ (r = if (0 : Int) ≤ u1.toInt ∧ (u1.toInt : Int) < sz.toInt then rn (Int.toNat u1.toInt) else none)) := by
  refine met2 (own := RX0) (by decide) rfl (Nat.le_of_ble_eq_true rfl) ?_
  intro p e s m args below meth c ls Q hQ C hr hini hl h
  have hl : lv_has ls 2 [(0, .ref u0), (1, .int u1)] := hl
  obtain ⟨hx, hb, hml, hown, hts, hE0, hlk⟩ := id C
  have o := Fr.rf [] τ f
  refine lv_iload_n hx hb dX0_find_0 rfl (lv_at hl 1 rfl) ?_
  refine lv_iconst (v := 0) hx hb dX0_find_1 (by decide) ?_
  refine lv_aload_n hx hb dX0_find_2 rfl (lv_at hl 0 rfl) ?_
  refine t_getfd C h t hu0 (by decide) wf_12 (v := .ref sn) k_u0_1 fl_X0_12 dX0_find_3 ?_
  refine t_getfd C h t hsn (by decide) wf_15 (v := .int sz) k_sn_1 fl_X0_25 dX0_find_6 ?_
  refine lv_iconst (v := 1) hx hb dX0_find_9 (by decide) ?_
  refine i_subk hx hb dX0_find_10 hsz (k := 1) rfl (lo := (-1)) (hi := 7) (by decide) (fun z1 ez1 mz1 iz1 => ?_)
  refine k_i (r_SN C h hl (host := "QuarterWalks") (As := [.int u1, .int 0, .int z1]) (rest := []) (s_X10_within l D G b0 τ f t u1 hu1 0 (iv_w (iv_k (x := 0) (k := 0) rfl) (by decide)) z1 (iv_w iz1 (by decide))) mk_X10_within (by decide) w_426 w_427 ⟨Nat.le_of_ble_eq_true rfl, Nat.le_of_ble_eq_true rfl⟩ rfl (Nat.le_of_ble_eq_true rfl) ⟨Nat.le_of_ble_eq_true rfl, Nat.le_of_ble_eq_true rfl⟩ rfl dX0_find_11) h (fun r2 f3 H locs p4 h => ?_)
  have n5 : (0 : Int32).toInt = 0 := rfl
  obtain ⟨ir2, tf3, ogf3, cnr2, czr2⟩ := p4
  have egf3 := Fr.nil2 ogf3
  subst egf3
  refine lv_if_eq (tgt := 29) hx hb dX0_find_14 (by decide) (fun c6 => ?_) (fun c6 => ?_)
  · have c7 : r2.toInt = 0 := congrArg Int32.toInt c6
    have i8 : iv r2 0 0 := iv_Q c7 ir2 (iv_k (x := 0) (k := 0) rfl) (by decide)
    have i9 := czr2 c7
    refine lv_null hx hb dX0_find_29 ?_
    exact u_aret C h hr (Or.inl ⟨_, rfl⟩) hQ (v := none) (⟨(fun z_ h_ => by cases h_), t, o, (by rw [if_neg (by omega)])⟩) (Nat.le_of_ble_eq_true rfl) (Nat.le_of_ble_eq_true rfl) rfl dX0_find_30
  · have c10 : r2.toInt ≠ 0 := fun z_ => c6 (Int32.toInt_inj.mp z_)
    have i11 : iv r2 1 1 := iv_Nl c10 ir2 (by decide)
    obtain ⟨i12, i13⟩ := cnr2 c10
    have i14 : iv u1 0 7 := ⟨by omega, by omega⟩
    refine lv_aload_n hx hb dX0_find_17 rfl (lv_at hl 0 rfl) ?_
    refine t_getfd C h t hu0 (by decide) wf_12 (v := .ref sn) k_u0_1 fl_X0_12 dX0_find_18 ?_
    refine t_getfd C h t hsn (by decide) wf_15 (v := .ref qn) k_sn_0 fl_X0_33 dX0_find_21 ?_
    refine lv_iload_n hx hb dX0_find_24 rfl (lv_at hl 1 rfl) ?_
    refine e_aaldO C h t (g := 4) rfl hqn (by decide) wf_4 hRqn (iv_in i14 (by decide)) dX0_find_25 (fun q15 eq15 tq15 => ?_)
    refine lv_goto (tgt := 30) hx hb dX0_find_26 (by decide) ?_
    exact u_aret C h hr (Or.inl ⟨_, rfl⟩) hQ (v := q15) (⟨tq15, t, o, (by rw [if_pos (by omega)]; exact eq15)⟩) (Nat.le_of_ble_eq_true rfl) (Nat.le_of_ble_eq_true rfl) rfl dX0_find_30
abbrev rm_s_X10_alike : Room := { frames := 6, cells := 8, slots := 2440, locals := 132 }
set_option maxRecDepth 100000 in
set_option maxHeartbeats 4000000 in
theorem s_X10_alike (l : Launch) (D : va_G) (G : Nat → Nat) (b0 : Nat) (τ : Nat → Nat) (f : hM) (t : TI G 9 τ f) (u0 : Nat) (hu0 : τ u0 = 10) (u1 : Int32) (hu1 : iv u1 (-2147483648) 2147483647) (bo : Nat) (hbo : τ bo = 12) (k_u0_1 : atp f u0 (fd 1 (.ref bo))) (sn : Nat) (hsn : τ sn = 15) (k_bo_1 : atp f bo (fd 1 (.ref sn))) (qn : Nat) (hqn : τ qn = 4) (k_sn_0 : atp f sn (fd 0 (.ref qn))) (sz : Int32) (hsz : iv sz 0 8) (k_sn_1 : atp f sn (fd 1 (.int sz))) (gq rq mq : Nat) (hgq : τ gq = 20) (kq2 : atp f u0 (fd 2 (.ref gq))) (hGJ : GJ τ f gq rq mq) (rn : Nat → Option Nat) (hRqn : atp f qn (eqr G 4 8 rn)) (hall : ∀ j : Nat, (j : Int) < sz.toInt → rn j ≠ none)  : mI l yX10_alike cX10_alike 5 (.int) rm_s_X10_alike D G b0 f [.ref u0, .int u1] (fun r f1 => (∃ τ1, Ex τ τ1 ∧ iv r (-1) 7 ∧ TI G 9 τ1 f1 ∧ Fr [0, 1, 3, 20, 21, 22, 23, 24, 25, 1004, 20001, 20002, 20007, 20008, 20009, 20010, 20011, 22001, 22002, 22003, 22004, 23001, 23002, 23003, 23004] τ f f1 ∧ GJ τ1 f1 gq rq mq)) := by
  refine met2 (own := RX10) (by decide) rfl (Nat.le_of_ble_eq_true rfl) ?_
  intro p e s m args below meth c ls Q hQ C hr hini hl h
  have hl : lv_has ls 5 [(0, .ref u0), (1, .int u1)] := hl
  obtain ⟨hx, hb, hml, hown, hts, hE0, hlk⟩ := id C
  have o := Fr.rf [0, 1, 3, 20, 21, 22, 23, 24, 25, 1004, 20001, 20002, 20007, 20008, 20009, 20010, 20011, 22001, 22002, 22003, 22004, 23001, 23002, 23003, 23004] τ f
  refine lv_aload_n hx hb dX10_alike_0 rfl (lv_at hl 0 rfl) ?_
  refine t_getfd C h t hu0 (by decide) wf_10 (v := .ref bo) k_u0_1 fl_X10_19 dX10_alike_1 ?_
  refine lv_iload_n hx hb dX10_alike_4 rfl (lv_at hl 1 rfl) ?_
  obtain ⟨_, ra_1⟩ := t_rec t hbo (by decide) wf_12
  refine k_q (r_V C h hl (As := [.int u1]) (rest := []) (s_X0_findY l D G b0 τ f t bo hbo u1 hu1 sn hsn k_bo_1 qn hqn k_sn_0 sz hsz k_sn_1 rn hRqn) ra_1 (Cn := RX0) (T := TX0) (N := 6) rfl rfl mk_X0_find w_594 w_595 w_596 w_597 ⟨Nat.le_of_ble_eq_true rfl, Nat.le_of_ble_eq_true rfl⟩ rfl (Nat.le_of_ble_eq_true rfl) ⟨Nat.le_of_ble_eq_true rfl, Nat.le_of_ble_eq_true rfl⟩ rfl dX10_alike_5) h (fun ra_2 fa_3 H locs pa_4 h => ?_)
  obtain ⟨qra_2, tfa_3, ogfa_3, x0ra_2⟩ := pa_4
  have egfa_3 := Fr.nil2 ogfa_3
  subst egfa_3
  have tra_2 := qra_2
  refine lv_astore_nO (lv' := [(2, va_rf ra_2), (0, .ref u0), (1, .int u1)]) hx hb dX10_alike_8 rfl hl (by decide) rfl (fun ls hl => ?_)
  refine lv_aload_nO hx hb dX10_alike_9 rfl (lv_at hl 0 rfl) ?_
  rcases va_rfc ra_2 with eqa_6 | ⟨qa_6, eqa_6⟩
  · subst eqa_6
    have hl : lv_has ls 5 [(2, .null), (0, .ref u0), (1, .int u1)] := hl
    show W _ _ _ _ _ _ _ _ _ _ _ _ _ _ _ (F0 m 10 ls [.null])
    refine lv_ifnonnullN hx hb dX10_alike_10 ?_
    refine lv_iconst (v := -1) hx hb dX10_alike_13 (by decide) ?_
    exact u_iret C h hr hQ (⟨τ, (Ex.rf τ), ⟨by decide, by decide⟩, t, o, hGJ⟩) (Nat.le_of_ble_eq_true rfl) (Nat.le_of_ble_eq_true rfl) dX10_alike_14
  · subst eqa_6
    have tqa_6 : τ qa_6 = 1 := tra_2 _ rfl
    have ok1 : 0 ≤ u1.toInt ∧ u1.toInt < sz.toInt := by
      by_cases z_ : 0 ≤ u1.toInt ∧ u1.toInt < sz.toInt
      · exact z_
      · rw [if_neg z_] at x0ra_2; cases x0ra_2
    have ia_7 : iv u1 0 7 := ⟨by omega, by omega⟩
    have hl : lv_has ls 5 [(2, .ref qa_6), (0, .ref u0), (1, .int u1)] := hl
    show W _ _ _ _ _ _ _ _ _ _ _ _ _ _ _ (F0 m 10 ls [.ref qa_6])
    refine lv_ifnonnull (tgt := 15) hx hb dX10_alike_10 (by decide) ?_
    refine lv_iconst (v := 0) hx hb dX10_alike_15 (by decide) ?_
    refine lv_istore_n (lv' := [(3, .int 0), (2, .ref qa_6), (0, .ref u0), (1, .int u1)]) hx hb dX10_alike_16 rfl hl (by decide) rfl (fun ls hl => ?_)
    refine lv_iload_n hx hb dX10_alike_17 rfl (lv_at hl 0 rfl) ?_
    refine lv_iload_n hx hb dX10_alike_18 rfl (lv_at hl 3 rfl) ?_
    refine lv_icmp_ge (tgt := 62) hx hb dX10_alike_19 (by decide) (fun ca_8 => ?_) (fun ca_8 => ?_)
    · have ca_9 : u1.toInt ≤ 0 := Int32.le_iff_toInt_le.mp ca_8
      have ia_10 : iv u1 0 0 := iv_El ca_9 ia_7 (iv_k (x := 0) (k := 0) rfl) (by decide)
      refine lv_iload_n hx hb dX10_alike_62 rfl (lv_at hl 3 rfl) ?_
      exact u_iret C h hr hQ (⟨τ, (Ex.rf τ), (iv_w ia_10 (by decide)), t, o, hGJ⟩) (Nat.le_of_ble_eq_true rfl) (Nat.le_of_ble_eq_true rfl) dX10_alike_63
    · have ca_9 : 0 < u1.toInt := Int32.lt_iff_toInt_lt.mp (iv_nle ca_8)
      have ia_10 : iv u1 1 7 := iv_Lr ca_9 (iv_k (x := 0) (k := 0) rfl) ia_7 (by decide)
      refine lv_aload_n hx hb dX10_alike_22 rfl (lv_at hl 2 rfl) ?_
      refine t_getfd C h t hu0 (by decide) wf_10 (v := .ref bo) k_u0_1 fl_X10_19 dX10_alike_23 ?_
      refine lv_iload_n hx hb dX10_alike_26 rfl (lv_at hl 0 rfl) ?_
      obtain ⟨_, ra_11⟩ := t_rec t hbo (by decide) wf_12
      refine k_q (r_V C h hl (As := [.int 0]) (rest := []) (s_X0_findY l D G b0 τ f t bo hbo 0 (iv_w (iv_k (x := 0) (k := 0) rfl) (by decide)) sn hsn k_bo_1 qn hqn k_sn_0 sz hsz k_sn_1 rn hRqn) ra_11 (Cn := RX0) (T := TX0) (N := 6) rfl rfl mk_X0_find w_594 w_595 w_596 w_597 ⟨Nat.le_of_ble_eq_true rfl, Nat.le_of_ble_eq_true rfl⟩ rfl (Nat.le_of_ble_eq_true rfl) ⟨Nat.le_of_ble_eq_true rfl, Nat.le_of_ble_eq_true rfl⟩ rfl dX10_alike_27) h (fun ra_12 fa_13 H locs pa_14 h => ?_)
      have na_15 : (0 : Int32).toInt = 0 := rfl
      obtain ⟨qra_12, tfa_13, ogfa_13, x0ra_12⟩ := pa_14
      have x0ra_12 : ra_12 = if (0 : Int) ≤ 0 ∧ (0 : Int) < sz.toInt then rn (Int.toNat 0) else none := x0ra_12
      have egfa_13 := Fr.nil2 ogfa_13
      subst egfa_13
      have tra_12 := qra_12
      refine lv_astoreO (lv' := [(4, va_rf ra_12), (3, .int 0), (2, .ref qa_6), (0, .ref u0), (1, .int u1)]) hx hb dX10_alike_30 hl (by decide) rfl (fun ls hl => ?_)
      refine lv_aloadO hx hb dX10_alike_32 (lv_at hl 0 rfl) ?_
      rcases va_rfc ra_12 with eqa_17 | ⟨qa_17, eqa_17⟩
      · subst eqa_17
        rw [if_pos (by omega)] at x0ra_12; exact absurd x0ra_12.symm (hall _ (by omega))
      · subst eqa_17
        have tqa_17 : τ qa_17 = 1 := tra_12 _ rfl
        have hl : lv_has ls 5 [(4, .ref qa_17), (3, .int 0), (2, .ref qa_6), (0, .ref u0), (1, .int u1)] := hl
        show W _ _ _ _ _ _ _ _ _ _ _ _ _ _ _ (F0 m 34 ls [.ref qa_17])
        refine lv_ifnull hx hb dX10_alike_34 ?_
        refine lv_aload_n hx hb dX10_alike_37 rfl (lv_at hl 3 rfl) ?_
        refine lv_aload hx hb dX10_alike_38 (lv_at hl 0 rfl) ?_
        obtain ⟨_, ra_18⟩ := t_rec t hu0 (by decide) wf_10
        refine k_q (r_V C h hl (As := [.ref qa_17]) (rest := []) (s_X10_terms l D G b0 τ f t u0 hu0 qa_17 tqa_17 gq rq mq hgq kq2 hGJ) ra_18 (Cn := RX10) (T := TX10) (N := 10) rfl rfl mk_X10_terms w_728 w_730 w_18 w_731 ⟨Nat.le_of_ble_eq_true rfl, Nat.le_of_ble_eq_true rfl⟩ rfl (Nat.le_of_ble_eq_true rfl) ⟨Nat.le_of_ble_eq_true rfl, Nat.le_of_ble_eq_true rfl⟩ rfl dX10_alike_40) h (fun ra_19 fa_20 H locs pa_21 h => ?_)
        obtain ⟨τfa_20, exfa_20, qra_19, tfa_20, ogfa_20, x0ra_19, gjfa_20⟩ := pa_21
        have ofa_20 : Fr [0, 1, 3, 20, 21, 22, 23, 24, 25, 1004, 20001, 20002, 20007, 20008, 20009, 20010, 20011, 22001, 22002, 22003, 22004, 23001, 23002, 23003, 23004] τ f fa_20 := Fr.tr o ogfa_20 (by decide) (by decide)
        have ka_22 := atp.fr k_u0_1 ogfa_20 hu0 (by decide)
        have ka_23 := atp.fr k_bo_1 ogfa_20 hbo (by decide)
        have ka_24 := atp.fr k_sn_0 ogfa_20 hsn (by decide)
        have ka_25 := atp.fr k_sn_1 ogfa_20 hsn (by decide)
        have ka_26 := atp.fr hRqn ogfa_20 hqn (by decide)
        have ka_27 := atp.fr kq2 ogfa_20 hu0 (by decide)
        have Ofa_20 : Fr [0, 1, 3, 20, 21, 22, 23, 24, 25, 1004, 20001, 20002, 20007, 20008, 20009, 20010, 20011, 22001, 22002, 22003, 22004, 23001, 23002, 23003, 23004] τ f fa_20 := ofa_20
        have xfa_20 : Ex τ τfa_20 := exfa_20
        have ha_28 : τfa_20 u0 = 10 := Ex.at exfa_20 hu0 (by decide)
        have ha_29 : τfa_20 qa_6 = 1 := Ex.at exfa_20 tqa_6 (by decide)
        have ha_30 : τfa_20 qa_17 = 1 := Ex.at exfa_20 tqa_17 (by decide)
        have ha_31 : τfa_20 bo = 12 := Ex.at exfa_20 hbo (by decide)
        have ha_32 : τfa_20 sn = 15 := Ex.at exfa_20 hsn (by decide)
        have ha_33 : τfa_20 qn = 4 := Ex.at exfa_20 hqn (by decide)
        have ha_34 : τfa_20 gq = 20 := Ex.at exfa_20 hgq (by decide)
        have ofa_20z := Fr.rf [0, 1, 3, 20, 21, 22, 23, 24, 25, 1004, 20001, 20002, 20007, 20008, 20009, 20010, 20011, 22001, 22002, 22003, 22004, 23001, 23002, 23003, 23004] τfa_20 fa_20
        obtain ⟨qa_35, rfl, tqa_35, ktqa_35⟩ := qra_19
        refine lv_aload_n hx hb dX10_alike_43 rfl (lv_at hl 3 rfl) ?_
        refine lv_aload_n hx hb dX10_alike_44 rfl (lv_at hl 2 rfl) ?_
        obtain ⟨_, ra_36⟩ := t_rec tfa_20 ha_28 (by decide) wf_10
        refine k_q (r_V C h hl (As := [.ref qa_6]) (rest := [.ref qa_35]) (s_X10_terms l D G b0 τfa_20 fa_20 tfa_20 u0 ha_28 qa_6 ha_29 gq rq mq ha_34 ka_27 gjfa_20) ra_36 (Cn := RX10) (T := TX10) (N := 10) rfl rfl mk_X10_terms w_728 w_730 w_18 w_731 ⟨Nat.le_of_ble_eq_true rfl, Nat.le_of_ble_eq_true rfl⟩ rfl (Nat.le_of_ble_eq_true rfl) ⟨Nat.le_of_ble_eq_true rfl, Nat.le_of_ble_eq_true rfl⟩ rfl dX10_alike_45) h (fun ra_37 fa_38 H locs pa_39 h => ?_)
        obtain ⟨τfa_38, exfa_38, qra_37, tfa_38, ogfa_38, x0ra_37, gjfa_38⟩ := pa_39
        have ofa_38 : Fr [0, 1, 3, 20, 21, 22, 23, 24, 25, 1004, 20001, 20002, 20007, 20008, 20009, 20010, 20011, 22001, 22002, 22003, 22004, 23001, 23002, 23003, 23004] τfa_20 fa_20 fa_38 := Fr.tr ofa_20z ogfa_38 (by decide) (by decide)
        have ka_40 := atp.fr ka_22 ogfa_38 ha_28 (by decide)
        have ka_41 := atp.fr ka_23 ogfa_38 ha_31 (by decide)
        have ka_42 := atp.fr ka_24 ogfa_38 ha_32 (by decide)
        have ka_43 := atp.fr ka_25 ogfa_38 ha_32 (by decide)
        have ka_44 := atp.fr ka_26 ogfa_38 ha_33 (by decide)
        have ka_45 := atp.fr ka_27 ogfa_38 ha_28 (by decide)
        have ka_46 := x0ra_37 _ _ ha_30 ktqa_35
        have Ofa_38 : Fr [0, 1, 3, 20, 21, 22, 23, 24, 25, 1004, 20001, 20002, 20007, 20008, 20009, 20010, 20011, 22001, 22002, 22003, 22004, 23001, 23002, 23003, 23004] τ f fa_38 := Fr.tr Ofa_20 (Fr.cv xfa_20 ofa_38 (by decide) (fun _ h_ => h_)) (fun _ h_ => h_) (fun _ h_ => h_)
        have xfa_38 : Ex τ τfa_38 := Ex.tr xfa_20 exfa_38
        have ha_47 : τfa_38 qa_35 = 3 := Ex.at exfa_38 tqa_35 (by decide)
        have ha_48 : τfa_38 u0 = 10 := Ex.at exfa_38 ha_28 (by decide)
        have ha_49 : τfa_38 qa_6 = 1 := Ex.at exfa_38 ha_29 (by decide)
        have ha_50 : τfa_38 qa_17 = 1 := Ex.at exfa_38 ha_30 (by decide)
        have ha_51 : τfa_38 bo = 12 := Ex.at exfa_38 ha_31 (by decide)
        have ha_52 : τfa_38 sn = 15 := Ex.at exfa_38 ha_32 (by decide)
        have ha_53 : τfa_38 qn = 4 := Ex.at exfa_38 ha_33 (by decide)
        have ha_54 : τfa_38 gq = 20 := Ex.at exfa_38 ha_34 (by decide)
        have ofa_38z := Fr.rf [0, 1, 3, 20, 21, 22, 23, 24, 25, 1004, 20001, 20002, 20007, 20008, 20009, 20010, 20011, 22001, 22002, 22003, 22004, 23001, 23002, 23003, 23004] τfa_38 fa_38
        obtain ⟨qa_55, rfl, tqa_55, ktqa_55⟩ := qra_37
        refine k_i (r_S C h hl (As := [.ref qa_35, .ref qa_55]) (rest := []) (s_X10_areAlike l D G b0 τfa_38 fa_38 tfa_38 qa_35 ha_47 qa_55 tqa_55) mk_X10_areAlike w_1019 w_1020 w_1021 ⟨Nat.le_of_ble_eq_true rfl, Nat.le_of_ble_eq_true rfl⟩ rfl (Nat.le_of_ble_eq_true rfl) ⟨Nat.le_of_ble_eq_true rfl, Nat.le_of_ble_eq_true rfl⟩ rfl dX10_alike_48) h (fun ra_56 fa_57 H locs pa_58 h => ?_)
        obtain ⟨ira_56, tfa_57, ogfa_57⟩ := pa_58
        have egfa_57 := Fr.nil2 ogfa_57
        subst egfa_57
        refine lv_if_eq (tgt := 56) hx hb dX10_alike_51 (by decide) (fun ca_59 => ?_) (fun ca_59 => ?_)
        · have ca_60 : ra_56.toInt = 0 := congrArg Int32.toInt ca_59
          have ia_61 : iv ra_56 0 0 := iv_Q ca_60 ira_56 (iv_k (x := 0) (k := 0) rfl) (by decide)
          refine lv_iinc (v := 1) (lv' := [(3, .int 1), (4, .ref qa_17), (2, .ref qa_6), (0, .ref u0), (1, .int u1)]) hx hb dX10_alike_56 hl (k := 1) rfl (by decide) (by decide) rfl (fun ls hl => ?_)
          refine lv_goto (tgt := 17) hx hb dX10_alike_59 (by decide) ?_
          refine lv_iload_n hx hb dX10_alike_17 rfl (lv_at hl 0 rfl) ?_
          refine lv_iload_n hx hb dX10_alike_18 rfl (lv_at hl 4 rfl) ?_
          refine lv_icmp_ge (tgt := 62) hx hb dX10_alike_19 (by decide) (fun ca_62 => ?_) (fun ca_62 => ?_)
          · have ca_63 : u1.toInt ≤ 1 := Int32.le_iff_toInt_le.mp ca_62
            have ia_64 : iv u1 1 1 := iv_El ca_63 ia_10 (iv_k (x := 1) (k := 1) rfl) (by decide)
            refine lv_iload_n hx hb dX10_alike_62 rfl (lv_at hl 4 rfl) ?_
            exact u_iret C h hr hQ (⟨τfa_38, xfa_38, (iv_w ia_64 (by decide)), tfa_38, (Fr.tr Ofa_38 (Fr.cv xfa_38 ofa_38z (by decide) (fun _ h_ => h_)) (fun _ h_ => h_) (fun _ h_ => h_)), gjfa_38⟩) (Nat.le_of_ble_eq_true rfl) (Nat.le_of_ble_eq_true rfl) dX10_alike_63
          · have ca_63 : 1 < u1.toInt := Int32.lt_iff_toInt_lt.mp (iv_nle ca_62)
            have ia_64 : iv u1 2 7 := iv_Lr ca_63 (iv_k (x := 1) (k := 1) rfl) ia_10 (by decide)
            refine lv_aload_n hx hb dX10_alike_22 rfl (lv_at hl 3 rfl) ?_
            refine t_getfd C h tfa_38 ha_48 (by decide) wf_10 (v := .ref bo) ka_40 fl_X10_19 dX10_alike_23 ?_
            refine lv_iload_n hx hb dX10_alike_26 rfl (lv_at hl 0 rfl) ?_
            obtain ⟨_, ra_65⟩ := t_rec tfa_38 ha_51 (by decide) wf_12
            refine k_q (r_V C h hl (As := [.int 1]) (rest := []) (s_X0_findY l D G b0 τfa_38 fa_38 tfa_38 bo ha_51 1 (iv_w (iv_k (x := 1) (k := 1) rfl) (by decide)) sn ha_52 ka_41 qn ha_53 ka_42 sz hsz ka_43 rn ka_44) ra_65 (Cn := RX0) (T := TX0) (N := 6) rfl rfl mk_X0_find w_594 w_595 w_596 w_597 ⟨Nat.le_of_ble_eq_true rfl, Nat.le_of_ble_eq_true rfl⟩ rfl (Nat.le_of_ble_eq_true rfl) ⟨Nat.le_of_ble_eq_true rfl, Nat.le_of_ble_eq_true rfl⟩ rfl dX10_alike_27) h (fun ra_66 fa_67 H locs pa_68 h => ?_)
            have na_69 : (1 : Int32).toInt = 1 := rfl
            obtain ⟨qra_66, tfa_67, ogfa_67, x0ra_66⟩ := pa_68
            have x0ra_66 : ra_66 = if (0 : Int) ≤ 1 ∧ (1 : Int) < sz.toInt then rn (Int.toNat 1) else none := x0ra_66
            have egfa_67 := Fr.nil2 ogfa_67
            subst egfa_67
            have tra_66 := qra_66
            refine lv_astoreO (lv' := [(4, va_rf ra_66), (3, .int 1), (2, .ref qa_6), (0, .ref u0), (1, .int u1)]) hx hb dX10_alike_30 hl (by decide) rfl (fun ls hl => ?_)
            refine lv_aloadO hx hb dX10_alike_32 (lv_at hl 0 rfl) ?_
            rcases va_rfc ra_66 with eqa_71 | ⟨qa_71, eqa_71⟩
            · subst eqa_71
              rw [if_pos (by omega)] at x0ra_66; exact absurd x0ra_66.symm (hall _ (by omega))
            · subst eqa_71
              have tqa_71 : τfa_38 qa_71 = 1 := tra_66 _ rfl
              have hl : lv_has ls 5 [(4, .ref qa_71), (3, .int 1), (2, .ref qa_6), (0, .ref u0), (1, .int u1)] := hl
              show W _ _ _ _ _ _ _ _ _ _ _ _ _ _ _ (F0 m 34 ls [.ref qa_71])
              refine lv_ifnull hx hb dX10_alike_34 ?_
              refine lv_aload_n hx hb dX10_alike_37 rfl (lv_at hl 3 rfl) ?_
              refine lv_aload hx hb dX10_alike_38 (lv_at hl 0 rfl) ?_
              obtain ⟨_, ra_72⟩ := t_rec tfa_38 ha_48 (by decide) wf_10
              refine k_q (r_V C h hl (As := [.ref qa_71]) (rest := []) (s_X10_terms l D G b0 τfa_38 fa_38 tfa_38 u0 ha_48 qa_71 tqa_71 gq rq mq ha_54 ka_45 gjfa_38) ra_72 (Cn := RX10) (T := TX10) (N := 10) rfl rfl mk_X10_terms w_728 w_730 w_18 w_731 ⟨Nat.le_of_ble_eq_true rfl, Nat.le_of_ble_eq_true rfl⟩ rfl (Nat.le_of_ble_eq_true rfl) ⟨Nat.le_of_ble_eq_true rfl, Nat.le_of_ble_eq_true rfl⟩ rfl dX10_alike_40) h (fun ra_73 fa_74 H locs pa_75 h => ?_)
              obtain ⟨τfa_74, exfa_74, qra_73, tfa_74, ogfa_74, x0ra_73, gjfa_74⟩ := pa_75
              have ofa_74 : Fr [0, 1, 3, 20, 21, 22, 23, 24, 25, 1004, 20001, 20002, 20007, 20008, 20009, 20010, 20011, 22001, 22002, 22003, 22004, 23001, 23002, 23003, 23004] τfa_38 fa_38 fa_74 := Fr.tr ofa_38z ogfa_74 (by decide) (by decide)
              have ka_76 := atp.fr ka_40 ogfa_74 ha_48 (by decide)
              have ka_77 := atp.fr ka_41 ogfa_74 ha_51 (by decide)
              have ka_78 := atp.fr ka_42 ogfa_74 ha_52 (by decide)
              have ka_79 := atp.fr ka_43 ogfa_74 ha_52 (by decide)
              have ka_80 := atp.fr ka_44 ogfa_74 ha_53 (by decide)
              have ka_81 := atp.fr ka_45 ogfa_74 ha_48 (by decide)
              have ka_82 := x0ra_73 _ _ ha_50 ka_46
              have ka_83 := x0ra_73 _ _ ha_49 ktqa_55
              have Ofa_74 : Fr [0, 1, 3, 20, 21, 22, 23, 24, 25, 1004, 20001, 20002, 20007, 20008, 20009, 20010, 20011, 22001, 22002, 22003, 22004, 23001, 23002, 23003, 23004] τ f fa_74 := Fr.tr Ofa_38 (Fr.cv xfa_38 ofa_74 (by decide) (fun _ h_ => h_)) (fun _ h_ => h_) (fun _ h_ => h_)
              have xfa_74 : Ex τ τfa_74 := Ex.tr xfa_38 exfa_74
              have ha_84 : τfa_74 u0 = 10 := Ex.at exfa_74 ha_48 (by decide)
              have ha_85 : τfa_74 qa_6 = 1 := Ex.at exfa_74 ha_49 (by decide)
              have ha_86 : τfa_74 qa_71 = 1 := Ex.at exfa_74 tqa_71 (by decide)
              have ha_87 : τfa_74 bo = 12 := Ex.at exfa_74 ha_51 (by decide)
              have ha_88 : τfa_74 sn = 15 := Ex.at exfa_74 ha_52 (by decide)
              have ha_89 : τfa_74 qn = 4 := Ex.at exfa_74 ha_53 (by decide)
              have ha_90 : τfa_74 gq = 20 := Ex.at exfa_74 ha_54 (by decide)
              have ha_91 : τfa_74 qa_35 = 3 := Ex.at exfa_74 ha_47 (by decide)
              have ha_92 : τfa_74 qa_55 = 3 := Ex.at exfa_74 tqa_55 (by decide)
              have ha_93 : τfa_74 qa_17 = 1 := Ex.at exfa_74 ha_50 (by decide)
              have ofa_74z := Fr.rf [0, 1, 3, 20, 21, 22, 23, 24, 25, 1004, 20001, 20002, 20007, 20008, 20009, 20010, 20011, 22001, 22002, 22003, 22004, 23001, 23002, 23003, 23004] τfa_74 fa_74
              obtain ⟨qa_94, rfl, tqa_94, ktqa_94⟩ := qra_73
              refine lv_aload_n hx hb dX10_alike_43 rfl (lv_at hl 3 rfl) ?_
              refine lv_aload_n hx hb dX10_alike_44 rfl (lv_at hl 2 rfl) ?_
              obtain ⟨_, ra_95⟩ := t_rec tfa_74 ha_84 (by decide) wf_10
              refine k_q (r_V C h hl (As := [.ref qa_6]) (rest := [.ref qa_94]) (s_X10_termsB l D G b0 τfa_74 fa_74 tfa_74 u0 ha_84 qa_6 ha_85 qa_55 ha_92 ka_83) ra_95 (Cn := RX10) (T := TX10) (N := 10) rfl rfl mk_X10_terms w_728 w_730 w_18 w_731 ⟨Nat.le_of_ble_eq_true rfl, Nat.le_of_ble_eq_true rfl⟩ rfl (Nat.le_of_ble_eq_true rfl) ⟨Nat.le_of_ble_eq_true rfl, Nat.le_of_ble_eq_true rfl⟩ rfl dX10_alike_45) h (fun ra_96 fa_97 H locs pa_98 h => ?_)
              obtain ⟨qra_96, tfa_97, ogfa_97⟩ := pa_98
              have egfa_97 := Fr.nil2 ogfa_97
              subst egfa_97
              obtain ⟨qa_99, rfl, tqa_99, ktqa_99⟩ := qra_96
              refine k_i (r_S C h hl (As := [.ref qa_94, .ref qa_99]) (rest := []) (s_X10_areAlike l D G b0 τfa_74 fa_74 tfa_74 qa_94 tqa_94 qa_99 tqa_99) mk_X10_areAlike w_1019 w_1020 w_1021 ⟨Nat.le_of_ble_eq_true rfl, Nat.le_of_ble_eq_true rfl⟩ rfl (Nat.le_of_ble_eq_true rfl) ⟨Nat.le_of_ble_eq_true rfl, Nat.le_of_ble_eq_true rfl⟩ rfl dX10_alike_48) h (fun ra_100 fa_101 H locs pa_102 h => ?_)
              obtain ⟨ira_100, tfa_101, ogfa_101⟩ := pa_102
              have egfa_101 := Fr.nil2 ogfa_101
              subst egfa_101
              refine lv_if_eq (tgt := 56) hx hb dX10_alike_51 (by decide) (fun ca_103 => ?_) (fun ca_103 => ?_)
              · have ca_104 : ra_100.toInt = 0 := congrArg Int32.toInt ca_103
                have ia_105 : iv ra_100 0 0 := iv_Q ca_104 ira_100 (iv_k (x := 0) (k := 0) rfl) (by decide)
                refine lv_iinc (v := 2) (lv' := [(3, .int 2), (4, .ref qa_71), (2, .ref qa_6), (0, .ref u0), (1, .int u1)]) hx hb dX10_alike_56 hl (k := 1) rfl (by decide) (by decide) rfl (fun ls hl => ?_)
                refine lv_goto (tgt := 17) hx hb dX10_alike_59 (by decide) ?_
                refine lv_iload_n hx hb dX10_alike_17 rfl (lv_at hl 0 rfl) ?_
                refine lv_iload_n hx hb dX10_alike_18 rfl (lv_at hl 4 rfl) ?_
                refine lv_icmp_ge (tgt := 62) hx hb dX10_alike_19 (by decide) (fun ca_106 => ?_) (fun ca_106 => ?_)
                · have ca_107 : u1.toInt ≤ 2 := Int32.le_iff_toInt_le.mp ca_106
                  have ia_108 : iv u1 2 2 := iv_El ca_107 ia_64 (iv_k (x := 2) (k := 2) rfl) (by decide)
                  refine lv_iload_n hx hb dX10_alike_62 rfl (lv_at hl 4 rfl) ?_
                  exact u_iret C h hr hQ (⟨τfa_74, xfa_74, (iv_w ia_108 (by decide)), tfa_74, (Fr.tr Ofa_74 (Fr.cv xfa_74 ofa_74z (by decide) (fun _ h_ => h_)) (fun _ h_ => h_) (fun _ h_ => h_)), gjfa_74⟩) (Nat.le_of_ble_eq_true rfl) (Nat.le_of_ble_eq_true rfl) dX10_alike_63
                · have ca_107 : 2 < u1.toInt := Int32.lt_iff_toInt_lt.mp (iv_nle ca_106)
                  have ia_108 : iv u1 3 7 := iv_Lr ca_107 (iv_k (x := 2) (k := 2) rfl) ia_64 (by decide)
                  refine lv_aload_n hx hb dX10_alike_22 rfl (lv_at hl 3 rfl) ?_
                  refine t_getfd C h tfa_74 ha_84 (by decide) wf_10 (v := .ref bo) ka_76 fl_X10_19 dX10_alike_23 ?_
                  refine lv_iload_n hx hb dX10_alike_26 rfl (lv_at hl 0 rfl) ?_
                  obtain ⟨_, ra_109⟩ := t_rec tfa_74 ha_87 (by decide) wf_12
                  refine k_q (r_V C h hl (As := [.int 2]) (rest := []) (s_X0_findY l D G b0 τfa_74 fa_74 tfa_74 bo ha_87 2 (iv_w (iv_k (x := 2) (k := 2) rfl) (by decide)) sn ha_88 ka_77 qn ha_89 ka_78 sz hsz ka_79 rn ka_80) ra_109 (Cn := RX0) (T := TX0) (N := 6) rfl rfl mk_X0_find w_594 w_595 w_596 w_597 ⟨Nat.le_of_ble_eq_true rfl, Nat.le_of_ble_eq_true rfl⟩ rfl (Nat.le_of_ble_eq_true rfl) ⟨Nat.le_of_ble_eq_true rfl, Nat.le_of_ble_eq_true rfl⟩ rfl dX10_alike_27) h (fun ra_110 fa_111 H locs pa_112 h => ?_)
                  have na_113 : (2 : Int32).toInt = 2 := rfl
                  obtain ⟨qra_110, tfa_111, ogfa_111, x0ra_110⟩ := pa_112
                  have x0ra_110 : ra_110 = if (0 : Int) ≤ 2 ∧ (2 : Int) < sz.toInt then rn (Int.toNat 2) else none := x0ra_110
                  have egfa_111 := Fr.nil2 ogfa_111
                  subst egfa_111
                  have tra_110 := qra_110
                  refine lv_astoreO (lv' := [(4, va_rf ra_110), (3, .int 2), (2, .ref qa_6), (0, .ref u0), (1, .int u1)]) hx hb dX10_alike_30 hl (by decide) rfl (fun ls hl => ?_)
                  refine lv_aloadO hx hb dX10_alike_32 (lv_at hl 0 rfl) ?_
                  rcases va_rfc ra_110 with eqa_115 | ⟨qa_115, eqa_115⟩
                  · subst eqa_115
                    rw [if_pos (by omega)] at x0ra_110; exact absurd x0ra_110.symm (hall _ (by omega))
                  · subst eqa_115
                    have tqa_115 : τfa_74 qa_115 = 1 := tra_110 _ rfl
                    have hl : lv_has ls 5 [(4, .ref qa_115), (3, .int 2), (2, .ref qa_6), (0, .ref u0), (1, .int u1)] := hl
                    show W _ _ _ _ _ _ _ _ _ _ _ _ _ _ _ (F0 m 34 ls [.ref qa_115])
                    refine lv_ifnull hx hb dX10_alike_34 ?_
                    refine lv_aload_n hx hb dX10_alike_37 rfl (lv_at hl 3 rfl) ?_
                    refine lv_aload hx hb dX10_alike_38 (lv_at hl 0 rfl) ?_
                    obtain ⟨_, ra_116⟩ := t_rec tfa_74 ha_84 (by decide) wf_10
                    refine k_q (r_V C h hl (As := [.ref qa_115]) (rest := []) (s_X10_terms l D G b0 τfa_74 fa_74 tfa_74 u0 ha_84 qa_115 tqa_115 gq rq mq ha_90 ka_81 gjfa_74) ra_116 (Cn := RX10) (T := TX10) (N := 10) rfl rfl mk_X10_terms w_728 w_730 w_18 w_731 ⟨Nat.le_of_ble_eq_true rfl, Nat.le_of_ble_eq_true rfl⟩ rfl (Nat.le_of_ble_eq_true rfl) ⟨Nat.le_of_ble_eq_true rfl, Nat.le_of_ble_eq_true rfl⟩ rfl dX10_alike_40) h (fun ra_117 fa_118 H locs pa_119 h => ?_)
                    obtain ⟨τfa_118, exfa_118, qra_117, tfa_118, ogfa_118, x0ra_117, gjfa_118⟩ := pa_119
                    have ofa_118 : Fr [0, 1, 3, 20, 21, 22, 23, 24, 25, 1004, 20001, 20002, 20007, 20008, 20009, 20010, 20011, 22001, 22002, 22003, 22004, 23001, 23002, 23003, 23004] τfa_74 fa_74 fa_118 := Fr.tr ofa_74z ogfa_118 (by decide) (by decide)
                    have ka_120 := atp.fr ka_76 ogfa_118 ha_84 (by decide)
                    have ka_121 := atp.fr ka_77 ogfa_118 ha_87 (by decide)
                    have ka_122 := atp.fr ka_78 ogfa_118 ha_88 (by decide)
                    have ka_123 := atp.fr ka_79 ogfa_118 ha_88 (by decide)
                    have ka_124 := atp.fr ka_80 ogfa_118 ha_89 (by decide)
                    have ka_125 := atp.fr ka_81 ogfa_118 ha_84 (by decide)
                    have ka_126 := x0ra_117 _ _ ha_93 ka_82
                    have ka_127 := x0ra_117 _ _ ha_85 ktqa_99
                    have ka_128 := x0ra_117 _ _ ha_86 ktqa_94
                    have Ofa_118 : Fr [0, 1, 3, 20, 21, 22, 23, 24, 25, 1004, 20001, 20002, 20007, 20008, 20009, 20010, 20011, 22001, 22002, 22003, 22004, 23001, 23002, 23003, 23004] τ f fa_118 := Fr.tr Ofa_74 (Fr.cv xfa_74 ofa_118 (by decide) (fun _ h_ => h_)) (fun _ h_ => h_) (fun _ h_ => h_)
                    have xfa_118 : Ex τ τfa_118 := Ex.tr xfa_74 exfa_118
                    have ha_129 : τfa_118 u0 = 10 := Ex.at exfa_118 ha_84 (by decide)
                    have ha_130 : τfa_118 qa_6 = 1 := Ex.at exfa_118 ha_85 (by decide)
                    have ha_131 : τfa_118 qa_115 = 1 := Ex.at exfa_118 tqa_115 (by decide)
                    have ha_132 : τfa_118 bo = 12 := Ex.at exfa_118 ha_87 (by decide)
                    have ha_133 : τfa_118 sn = 15 := Ex.at exfa_118 ha_88 (by decide)
                    have ha_134 : τfa_118 qn = 4 := Ex.at exfa_118 ha_89 (by decide)
                    have ha_135 : τfa_118 gq = 20 := Ex.at exfa_118 ha_90 (by decide)
                    have ha_136 : τfa_118 qa_35 = 3 := Ex.at exfa_118 ha_91 (by decide)
                    have ha_137 : τfa_118 qa_99 = 3 := Ex.at exfa_118 tqa_99 (by decide)
                    have ha_138 : τfa_118 qa_94 = 3 := Ex.at exfa_118 tqa_94 (by decide)
                    have ha_139 : τfa_118 qa_17 = 1 := Ex.at exfa_118 ha_93 (by decide)
                    have ha_140 : τfa_118 qa_71 = 1 := Ex.at exfa_118 ha_86 (by decide)
                    have ofa_118z := Fr.rf [0, 1, 3, 20, 21, 22, 23, 24, 25, 1004, 20001, 20002, 20007, 20008, 20009, 20010, 20011, 22001, 22002, 22003, 22004, 23001, 23002, 23003, 23004] τfa_118 fa_118
                    obtain ⟨qa_141, rfl, tqa_141, ktqa_141⟩ := qra_117
                    refine lv_aload_n hx hb dX10_alike_43 rfl (lv_at hl 3 rfl) ?_
                    refine lv_aload_n hx hb dX10_alike_44 rfl (lv_at hl 2 rfl) ?_
                    obtain ⟨_, ra_142⟩ := t_rec tfa_118 ha_129 (by decide) wf_10
                    refine k_q (r_V C h hl (As := [.ref qa_6]) (rest := [.ref qa_141]) (s_X10_termsB l D G b0 τfa_118 fa_118 tfa_118 u0 ha_129 qa_6 ha_130 qa_99 ha_137 ka_127) ra_142 (Cn := RX10) (T := TX10) (N := 10) rfl rfl mk_X10_terms w_728 w_730 w_18 w_731 ⟨Nat.le_of_ble_eq_true rfl, Nat.le_of_ble_eq_true rfl⟩ rfl (Nat.le_of_ble_eq_true rfl) ⟨Nat.le_of_ble_eq_true rfl, Nat.le_of_ble_eq_true rfl⟩ rfl dX10_alike_45) h (fun ra_143 fa_144 H locs pa_145 h => ?_)
                    obtain ⟨qra_143, tfa_144, ogfa_144⟩ := pa_145
                    have egfa_144 := Fr.nil2 ogfa_144
                    subst egfa_144
                    obtain ⟨qa_146, rfl, tqa_146, ktqa_146⟩ := qra_143
                    refine k_i (r_S C h hl (As := [.ref qa_141, .ref qa_146]) (rest := []) (s_X10_areAlike l D G b0 τfa_118 fa_118 tfa_118 qa_141 tqa_141 qa_146 tqa_146) mk_X10_areAlike w_1019 w_1020 w_1021 ⟨Nat.le_of_ble_eq_true rfl, Nat.le_of_ble_eq_true rfl⟩ rfl (Nat.le_of_ble_eq_true rfl) ⟨Nat.le_of_ble_eq_true rfl, Nat.le_of_ble_eq_true rfl⟩ rfl dX10_alike_48) h (fun ra_147 fa_148 H locs pa_149 h => ?_)
                    obtain ⟨ira_147, tfa_148, ogfa_148⟩ := pa_149
                    have egfa_148 := Fr.nil2 ogfa_148
                    subst egfa_148
                    refine lv_if_eq (tgt := 56) hx hb dX10_alike_51 (by decide) (fun ca_150 => ?_) (fun ca_150 => ?_)
                    · have ca_151 : ra_147.toInt = 0 := congrArg Int32.toInt ca_150
                      have ia_152 : iv ra_147 0 0 := iv_Q ca_151 ira_147 (iv_k (x := 0) (k := 0) rfl) (by decide)
                      refine lv_iinc (v := 3) (lv' := [(3, .int 3), (4, .ref qa_115), (2, .ref qa_6), (0, .ref u0), (1, .int u1)]) hx hb dX10_alike_56 hl (k := 1) rfl (by decide) (by decide) rfl (fun ls hl => ?_)
                      refine lv_goto (tgt := 17) hx hb dX10_alike_59 (by decide) ?_
                      refine lv_iload_n hx hb dX10_alike_17 rfl (lv_at hl 0 rfl) ?_
                      refine lv_iload_n hx hb dX10_alike_18 rfl (lv_at hl 4 rfl) ?_
                      refine lv_icmp_ge (tgt := 62) hx hb dX10_alike_19 (by decide) (fun ca_153 => ?_) (fun ca_153 => ?_)
                      · have ca_154 : u1.toInt ≤ 3 := Int32.le_iff_toInt_le.mp ca_153
                        have ia_155 : iv u1 3 3 := iv_El ca_154 ia_108 (iv_k (x := 3) (k := 3) rfl) (by decide)
                        refine lv_iload_n hx hb dX10_alike_62 rfl (lv_at hl 4 rfl) ?_
                        exact u_iret C h hr hQ (⟨τfa_118, xfa_118, (iv_w ia_155 (by decide)), tfa_118, (Fr.tr Ofa_118 (Fr.cv xfa_118 ofa_118z (by decide) (fun _ h_ => h_)) (fun _ h_ => h_) (fun _ h_ => h_)), gjfa_118⟩) (Nat.le_of_ble_eq_true rfl) (Nat.le_of_ble_eq_true rfl) dX10_alike_63
                      · have ca_154 : 3 < u1.toInt := Int32.lt_iff_toInt_lt.mp (iv_nle ca_153)
                        have ia_155 : iv u1 4 7 := iv_Lr ca_154 (iv_k (x := 3) (k := 3) rfl) ia_108 (by decide)
                        refine lv_aload_n hx hb dX10_alike_22 rfl (lv_at hl 3 rfl) ?_
                        refine t_getfd C h tfa_118 ha_129 (by decide) wf_10 (v := .ref bo) ka_120 fl_X10_19 dX10_alike_23 ?_
                        refine lv_iload_n hx hb dX10_alike_26 rfl (lv_at hl 0 rfl) ?_
                        obtain ⟨_, ra_156⟩ := t_rec tfa_118 ha_132 (by decide) wf_12
                        refine k_q (r_V C h hl (As := [.int 3]) (rest := []) (s_X0_findY l D G b0 τfa_118 fa_118 tfa_118 bo ha_132 3 (iv_w (iv_k (x := 3) (k := 3) rfl) (by decide)) sn ha_133 ka_121 qn ha_134 ka_122 sz hsz ka_123 rn ka_124) ra_156 (Cn := RX0) (T := TX0) (N := 6) rfl rfl mk_X0_find w_594 w_595 w_596 w_597 ⟨Nat.le_of_ble_eq_true rfl, Nat.le_of_ble_eq_true rfl⟩ rfl (Nat.le_of_ble_eq_true rfl) ⟨Nat.le_of_ble_eq_true rfl, Nat.le_of_ble_eq_true rfl⟩ rfl dX10_alike_27) h (fun ra_157 fa_158 H locs pa_159 h => ?_)
                        have na_160 : (3 : Int32).toInt = 3 := rfl
                        obtain ⟨qra_157, tfa_158, ogfa_158, x0ra_157⟩ := pa_159
                        have x0ra_157 : ra_157 = if (0 : Int) ≤ 3 ∧ (3 : Int) < sz.toInt then rn (Int.toNat 3) else none := x0ra_157
                        have egfa_158 := Fr.nil2 ogfa_158
                        subst egfa_158
                        have tra_157 := qra_157
                        refine lv_astoreO (lv' := [(4, va_rf ra_157), (3, .int 3), (2, .ref qa_6), (0, .ref u0), (1, .int u1)]) hx hb dX10_alike_30 hl (by decide) rfl (fun ls hl => ?_)
                        refine lv_aloadO hx hb dX10_alike_32 (lv_at hl 0 rfl) ?_
                        rcases va_rfc ra_157 with eqa_162 | ⟨qa_162, eqa_162⟩
                        · subst eqa_162
                          rw [if_pos (by omega)] at x0ra_157; exact absurd x0ra_157.symm (hall _ (by omega))
                        · subst eqa_162
                          have tqa_162 : τfa_118 qa_162 = 1 := tra_157 _ rfl
                          have hl : lv_has ls 5 [(4, .ref qa_162), (3, .int 3), (2, .ref qa_6), (0, .ref u0), (1, .int u1)] := hl
                          show W _ _ _ _ _ _ _ _ _ _ _ _ _ _ _ (F0 m 34 ls [.ref qa_162])
                          refine lv_ifnull hx hb dX10_alike_34 ?_
                          refine lv_aload_n hx hb dX10_alike_37 rfl (lv_at hl 3 rfl) ?_
                          refine lv_aload hx hb dX10_alike_38 (lv_at hl 0 rfl) ?_
                          obtain ⟨_, ra_163⟩ := t_rec tfa_118 ha_129 (by decide) wf_10
                          refine k_q (r_V C h hl (As := [.ref qa_162]) (rest := []) (s_X10_terms l D G b0 τfa_118 fa_118 tfa_118 u0 ha_129 qa_162 tqa_162 gq rq mq ha_135 ka_125 gjfa_118) ra_163 (Cn := RX10) (T := TX10) (N := 10) rfl rfl mk_X10_terms w_728 w_730 w_18 w_731 ⟨Nat.le_of_ble_eq_true rfl, Nat.le_of_ble_eq_true rfl⟩ rfl (Nat.le_of_ble_eq_true rfl) ⟨Nat.le_of_ble_eq_true rfl, Nat.le_of_ble_eq_true rfl⟩ rfl dX10_alike_40) h (fun ra_164 fa_165 H locs pa_166 h => ?_)
                          obtain ⟨τfa_165, exfa_165, qra_164, tfa_165, ogfa_165, x0ra_164, gjfa_165⟩ := pa_166
                          have ofa_165 : Fr [0, 1, 3, 20, 21, 22, 23, 24, 25, 1004, 20001, 20002, 20007, 20008, 20009, 20010, 20011, 22001, 22002, 22003, 22004, 23001, 23002, 23003, 23004] τfa_118 fa_118 fa_165 := Fr.tr ofa_118z ogfa_165 (by decide) (by decide)
                          have ka_167 := atp.fr ka_120 ogfa_165 ha_129 (by decide)
                          have ka_168 := atp.fr ka_121 ogfa_165 ha_132 (by decide)
                          have ka_169 := atp.fr ka_122 ogfa_165 ha_133 (by decide)
                          have ka_170 := atp.fr ka_123 ogfa_165 ha_133 (by decide)
                          have ka_171 := atp.fr ka_124 ogfa_165 ha_134 (by decide)
                          have ka_172 := atp.fr ka_125 ogfa_165 ha_129 (by decide)
                          have ka_173 := x0ra_164 _ _ ha_139 ka_126
                          have ka_174 := x0ra_164 _ _ ha_130 ktqa_146
                          have ka_175 := x0ra_164 _ _ ha_140 ka_128
                          have ka_176 := x0ra_164 _ _ ha_131 ktqa_141
                          have Ofa_165 : Fr [0, 1, 3, 20, 21, 22, 23, 24, 25, 1004, 20001, 20002, 20007, 20008, 20009, 20010, 20011, 22001, 22002, 22003, 22004, 23001, 23002, 23003, 23004] τ f fa_165 := Fr.tr Ofa_118 (Fr.cv xfa_118 ofa_165 (by decide) (fun _ h_ => h_)) (fun _ h_ => h_) (fun _ h_ => h_)
                          have xfa_165 : Ex τ τfa_165 := Ex.tr xfa_118 exfa_165
                          have ha_177 : τfa_165 u0 = 10 := Ex.at exfa_165 ha_129 (by decide)
                          have ha_178 : τfa_165 qa_6 = 1 := Ex.at exfa_165 ha_130 (by decide)
                          have ha_179 : τfa_165 qa_162 = 1 := Ex.at exfa_165 tqa_162 (by decide)
                          have ha_180 : τfa_165 bo = 12 := Ex.at exfa_165 ha_132 (by decide)
                          have ha_181 : τfa_165 sn = 15 := Ex.at exfa_165 ha_133 (by decide)
                          have ha_182 : τfa_165 qn = 4 := Ex.at exfa_165 ha_134 (by decide)
                          have ha_183 : τfa_165 gq = 20 := Ex.at exfa_165 ha_135 (by decide)
                          have ha_184 : τfa_165 qa_35 = 3 := Ex.at exfa_165 ha_136 (by decide)
                          have ha_185 : τfa_165 qa_146 = 3 := Ex.at exfa_165 tqa_146 (by decide)
                          have ha_186 : τfa_165 qa_94 = 3 := Ex.at exfa_165 ha_138 (by decide)
                          have ha_187 : τfa_165 qa_141 = 3 := Ex.at exfa_165 tqa_141 (by decide)
                          have ha_188 : τfa_165 qa_115 = 1 := Ex.at exfa_165 ha_131 (by decide)
                          have ha_189 : τfa_165 qa_17 = 1 := Ex.at exfa_165 ha_139 (by decide)
                          have ha_190 : τfa_165 qa_71 = 1 := Ex.at exfa_165 ha_140 (by decide)
                          have ofa_165z := Fr.rf [0, 1, 3, 20, 21, 22, 23, 24, 25, 1004, 20001, 20002, 20007, 20008, 20009, 20010, 20011, 22001, 22002, 22003, 22004, 23001, 23002, 23003, 23004] τfa_165 fa_165
                          obtain ⟨qa_191, rfl, tqa_191, ktqa_191⟩ := qra_164
                          refine lv_aload_n hx hb dX10_alike_43 rfl (lv_at hl 3 rfl) ?_
                          refine lv_aload_n hx hb dX10_alike_44 rfl (lv_at hl 2 rfl) ?_
                          obtain ⟨_, ra_192⟩ := t_rec tfa_165 ha_177 (by decide) wf_10
                          refine k_q (r_V C h hl (As := [.ref qa_6]) (rest := [.ref qa_191]) (s_X10_termsB l D G b0 τfa_165 fa_165 tfa_165 u0 ha_177 qa_6 ha_178 qa_146 ha_185 ka_174) ra_192 (Cn := RX10) (T := TX10) (N := 10) rfl rfl mk_X10_terms w_728 w_730 w_18 w_731 ⟨Nat.le_of_ble_eq_true rfl, Nat.le_of_ble_eq_true rfl⟩ rfl (Nat.le_of_ble_eq_true rfl) ⟨Nat.le_of_ble_eq_true rfl, Nat.le_of_ble_eq_true rfl⟩ rfl dX10_alike_45) h (fun ra_193 fa_194 H locs pa_195 h => ?_)
                          obtain ⟨qra_193, tfa_194, ogfa_194⟩ := pa_195
                          have egfa_194 := Fr.nil2 ogfa_194
                          subst egfa_194
                          obtain ⟨qa_196, rfl, tqa_196, ktqa_196⟩ := qra_193
                          refine k_i (r_S C h hl (As := [.ref qa_191, .ref qa_196]) (rest := []) (s_X10_areAlike l D G b0 τfa_165 fa_165 tfa_165 qa_191 tqa_191 qa_196 tqa_196) mk_X10_areAlike w_1019 w_1020 w_1021 ⟨Nat.le_of_ble_eq_true rfl, Nat.le_of_ble_eq_true rfl⟩ rfl (Nat.le_of_ble_eq_true rfl) ⟨Nat.le_of_ble_eq_true rfl, Nat.le_of_ble_eq_true rfl⟩ rfl dX10_alike_48) h (fun ra_197 fa_198 H locs pa_199 h => ?_)
                          obtain ⟨ira_197, tfa_198, ogfa_198⟩ := pa_199
                          have egfa_198 := Fr.nil2 ogfa_198
                          subst egfa_198
                          refine lv_if_eq (tgt := 56) hx hb dX10_alike_51 (by decide) (fun ca_200 => ?_) (fun ca_200 => ?_)
                          · have ca_201 : ra_197.toInt = 0 := congrArg Int32.toInt ca_200
                            have ia_202 : iv ra_197 0 0 := iv_Q ca_201 ira_197 (iv_k (x := 0) (k := 0) rfl) (by decide)
                            refine lv_iinc (v := 4) (lv' := [(3, .int 4), (4, .ref qa_162), (2, .ref qa_6), (0, .ref u0), (1, .int u1)]) hx hb dX10_alike_56 hl (k := 1) rfl (by decide) (by decide) rfl (fun ls hl => ?_)
                            refine lv_goto (tgt := 17) hx hb dX10_alike_59 (by decide) ?_
                            refine lv_iload_n hx hb dX10_alike_17 rfl (lv_at hl 0 rfl) ?_
                            refine lv_iload_n hx hb dX10_alike_18 rfl (lv_at hl 4 rfl) ?_
                            refine lv_icmp_ge (tgt := 62) hx hb dX10_alike_19 (by decide) (fun ca_203 => ?_) (fun ca_203 => ?_)
                            · have ca_204 : u1.toInt ≤ 4 := Int32.le_iff_toInt_le.mp ca_203
                              have ia_205 : iv u1 4 4 := iv_El ca_204 ia_155 (iv_k (x := 4) (k := 4) rfl) (by decide)
                              refine lv_iload_n hx hb dX10_alike_62 rfl (lv_at hl 4 rfl) ?_
                              exact u_iret C h hr hQ (⟨τfa_165, xfa_165, (iv_w ia_205 (by decide)), tfa_165, (Fr.tr Ofa_165 (Fr.cv xfa_165 ofa_165z (by decide) (fun _ h_ => h_)) (fun _ h_ => h_) (fun _ h_ => h_)), gjfa_165⟩) (Nat.le_of_ble_eq_true rfl) (Nat.le_of_ble_eq_true rfl) dX10_alike_63
                            · have ca_204 : 4 < u1.toInt := Int32.lt_iff_toInt_lt.mp (iv_nle ca_203)
                              have ia_205 : iv u1 5 7 := iv_Lr ca_204 (iv_k (x := 4) (k := 4) rfl) ia_155 (by decide)
                              refine lv_aload_n hx hb dX10_alike_22 rfl (lv_at hl 3 rfl) ?_
                              refine t_getfd C h tfa_165 ha_177 (by decide) wf_10 (v := .ref bo) ka_167 fl_X10_19 dX10_alike_23 ?_
                              refine lv_iload_n hx hb dX10_alike_26 rfl (lv_at hl 0 rfl) ?_
                              obtain ⟨_, ra_206⟩ := t_rec tfa_165 ha_180 (by decide) wf_12
                              refine k_q (r_V C h hl (As := [.int 4]) (rest := []) (s_X0_findY l D G b0 τfa_165 fa_165 tfa_165 bo ha_180 4 (iv_w (iv_k (x := 4) (k := 4) rfl) (by decide)) sn ha_181 ka_168 qn ha_182 ka_169 sz hsz ka_170 rn ka_171) ra_206 (Cn := RX0) (T := TX0) (N := 6) rfl rfl mk_X0_find w_594 w_595 w_596 w_597 ⟨Nat.le_of_ble_eq_true rfl, Nat.le_of_ble_eq_true rfl⟩ rfl (Nat.le_of_ble_eq_true rfl) ⟨Nat.le_of_ble_eq_true rfl, Nat.le_of_ble_eq_true rfl⟩ rfl dX10_alike_27) h (fun ra_207 fa_208 H locs pa_209 h => ?_)
                              have na_210 : (4 : Int32).toInt = 4 := rfl
                              obtain ⟨qra_207, tfa_208, ogfa_208, x0ra_207⟩ := pa_209
                              have x0ra_207 : ra_207 = if (0 : Int) ≤ 4 ∧ (4 : Int) < sz.toInt then rn (Int.toNat 4) else none := x0ra_207
                              have egfa_208 := Fr.nil2 ogfa_208
                              subst egfa_208
                              have tra_207 := qra_207
                              refine lv_astoreO (lv' := [(4, va_rf ra_207), (3, .int 4), (2, .ref qa_6), (0, .ref u0), (1, .int u1)]) hx hb dX10_alike_30 hl (by decide) rfl (fun ls hl => ?_)
                              refine lv_aloadO hx hb dX10_alike_32 (lv_at hl 0 rfl) ?_
                              rcases va_rfc ra_207 with eqa_212 | ⟨qa_212, eqa_212⟩
                              · subst eqa_212
                                rw [if_pos (by omega)] at x0ra_207; exact absurd x0ra_207.symm (hall _ (by omega))
                              · subst eqa_212
                                have tqa_212 : τfa_165 qa_212 = 1 := tra_207 _ rfl
                                have hl : lv_has ls 5 [(4, .ref qa_212), (3, .int 4), (2, .ref qa_6), (0, .ref u0), (1, .int u1)] := hl
                                show W _ _ _ _ _ _ _ _ _ _ _ _ _ _ _ (F0 m 34 ls [.ref qa_212])
                                refine lv_ifnull hx hb dX10_alike_34 ?_
                                refine lv_aload_n hx hb dX10_alike_37 rfl (lv_at hl 3 rfl) ?_
                                refine lv_aload hx hb dX10_alike_38 (lv_at hl 0 rfl) ?_
                                obtain ⟨_, ra_213⟩ := t_rec tfa_165 ha_177 (by decide) wf_10
                                refine k_q (r_V C h hl (As := [.ref qa_212]) (rest := []) (s_X10_terms l D G b0 τfa_165 fa_165 tfa_165 u0 ha_177 qa_212 tqa_212 gq rq mq ha_183 ka_172 gjfa_165) ra_213 (Cn := RX10) (T := TX10) (N := 10) rfl rfl mk_X10_terms w_728 w_730 w_18 w_731 ⟨Nat.le_of_ble_eq_true rfl, Nat.le_of_ble_eq_true rfl⟩ rfl (Nat.le_of_ble_eq_true rfl) ⟨Nat.le_of_ble_eq_true rfl, Nat.le_of_ble_eq_true rfl⟩ rfl dX10_alike_40) h (fun ra_214 fa_215 H locs pa_216 h => ?_)
                                obtain ⟨τfa_215, exfa_215, qra_214, tfa_215, ogfa_215, x0ra_214, gjfa_215⟩ := pa_216
                                have ofa_215 : Fr [0, 1, 3, 20, 21, 22, 23, 24, 25, 1004, 20001, 20002, 20007, 20008, 20009, 20010, 20011, 22001, 22002, 22003, 22004, 23001, 23002, 23003, 23004] τfa_165 fa_165 fa_215 := Fr.tr ofa_165z ogfa_215 (by decide) (by decide)
                                have ka_217 := atp.fr ka_167 ogfa_215 ha_177 (by decide)
                                have ka_218 := atp.fr ka_168 ogfa_215 ha_180 (by decide)
                                have ka_219 := atp.fr ka_169 ogfa_215 ha_181 (by decide)
                                have ka_220 := atp.fr ka_170 ogfa_215 ha_181 (by decide)
                                have ka_221 := atp.fr ka_171 ogfa_215 ha_182 (by decide)
                                have ka_222 := atp.fr ka_172 ogfa_215 ha_177 (by decide)
                                have ka_223 := x0ra_214 _ _ ha_189 ka_173
                                have ka_224 := x0ra_214 _ _ ha_178 ktqa_196
                                have ka_225 := x0ra_214 _ _ ha_190 ka_175
                                have ka_226 := x0ra_214 _ _ ha_188 ka_176
                                have ka_227 := x0ra_214 _ _ ha_179 ktqa_191
                                have Ofa_215 : Fr [0, 1, 3, 20, 21, 22, 23, 24, 25, 1004, 20001, 20002, 20007, 20008, 20009, 20010, 20011, 22001, 22002, 22003, 22004, 23001, 23002, 23003, 23004] τ f fa_215 := Fr.tr Ofa_165 (Fr.cv xfa_165 ofa_215 (by decide) (fun _ h_ => h_)) (fun _ h_ => h_) (fun _ h_ => h_)
                                have xfa_215 : Ex τ τfa_215 := Ex.tr xfa_165 exfa_215
                                have ha_228 : τfa_215 u0 = 10 := Ex.at exfa_215 ha_177 (by decide)
                                have ha_229 : τfa_215 qa_6 = 1 := Ex.at exfa_215 ha_178 (by decide)
                                have ha_230 : τfa_215 qa_212 = 1 := Ex.at exfa_215 tqa_212 (by decide)
                                have ha_231 : τfa_215 bo = 12 := Ex.at exfa_215 ha_180 (by decide)
                                have ha_232 : τfa_215 sn = 15 := Ex.at exfa_215 ha_181 (by decide)
                                have ha_233 : τfa_215 qn = 4 := Ex.at exfa_215 ha_182 (by decide)
                                have ha_234 : τfa_215 gq = 20 := Ex.at exfa_215 ha_183 (by decide)
                                have ha_235 : τfa_215 qa_35 = 3 := Ex.at exfa_215 ha_184 (by decide)
                                have ha_236 : τfa_215 qa_196 = 3 := Ex.at exfa_215 tqa_196 (by decide)
                                have ha_237 : τfa_215 qa_94 = 3 := Ex.at exfa_215 ha_186 (by decide)
                                have ha_238 : τfa_215 qa_141 = 3 := Ex.at exfa_215 ha_187 (by decide)
                                have ha_239 : τfa_215 qa_191 = 3 := Ex.at exfa_215 tqa_191 (by decide)
                                have ha_240 : τfa_215 qa_115 = 1 := Ex.at exfa_215 ha_188 (by decide)
                                have ha_241 : τfa_215 qa_162 = 1 := Ex.at exfa_215 ha_179 (by decide)
                                have ha_242 : τfa_215 qa_17 = 1 := Ex.at exfa_215 ha_189 (by decide)
                                have ha_243 : τfa_215 qa_71 = 1 := Ex.at exfa_215 ha_190 (by decide)
                                have ofa_215z := Fr.rf [0, 1, 3, 20, 21, 22, 23, 24, 25, 1004, 20001, 20002, 20007, 20008, 20009, 20010, 20011, 22001, 22002, 22003, 22004, 23001, 23002, 23003, 23004] τfa_215 fa_215
                                obtain ⟨qa_244, rfl, tqa_244, ktqa_244⟩ := qra_214
                                refine lv_aload_n hx hb dX10_alike_43 rfl (lv_at hl 3 rfl) ?_
                                refine lv_aload_n hx hb dX10_alike_44 rfl (lv_at hl 2 rfl) ?_
                                obtain ⟨_, ra_245⟩ := t_rec tfa_215 ha_228 (by decide) wf_10
                                refine k_q (r_V C h hl (As := [.ref qa_6]) (rest := [.ref qa_244]) (s_X10_termsB l D G b0 τfa_215 fa_215 tfa_215 u0 ha_228 qa_6 ha_229 qa_196 ha_236 ka_224) ra_245 (Cn := RX10) (T := TX10) (N := 10) rfl rfl mk_X10_terms w_728 w_730 w_18 w_731 ⟨Nat.le_of_ble_eq_true rfl, Nat.le_of_ble_eq_true rfl⟩ rfl (Nat.le_of_ble_eq_true rfl) ⟨Nat.le_of_ble_eq_true rfl, Nat.le_of_ble_eq_true rfl⟩ rfl dX10_alike_45) h (fun ra_246 fa_247 H locs pa_248 h => ?_)
                                obtain ⟨qra_246, tfa_247, ogfa_247⟩ := pa_248
                                have egfa_247 := Fr.nil2 ogfa_247
                                subst egfa_247
                                obtain ⟨qa_249, rfl, tqa_249, ktqa_249⟩ := qra_246
                                refine k_i (r_S C h hl (As := [.ref qa_244, .ref qa_249]) (rest := []) (s_X10_areAlike l D G b0 τfa_215 fa_215 tfa_215 qa_244 tqa_244 qa_249 tqa_249) mk_X10_areAlike w_1019 w_1020 w_1021 ⟨Nat.le_of_ble_eq_true rfl, Nat.le_of_ble_eq_true rfl⟩ rfl (Nat.le_of_ble_eq_true rfl) ⟨Nat.le_of_ble_eq_true rfl, Nat.le_of_ble_eq_true rfl⟩ rfl dX10_alike_48) h (fun ra_250 fa_251 H locs pa_252 h => ?_)
                                obtain ⟨ira_250, tfa_251, ogfa_251⟩ := pa_252
                                have egfa_251 := Fr.nil2 ogfa_251
                                subst egfa_251
                                refine lv_if_eq (tgt := 56) hx hb dX10_alike_51 (by decide) (fun ca_253 => ?_) (fun ca_253 => ?_)
                                · have ca_254 : ra_250.toInt = 0 := congrArg Int32.toInt ca_253
                                  have ia_255 : iv ra_250 0 0 := iv_Q ca_254 ira_250 (iv_k (x := 0) (k := 0) rfl) (by decide)
                                  refine lv_iinc (v := 5) (lv' := [(3, .int 5), (4, .ref qa_212), (2, .ref qa_6), (0, .ref u0), (1, .int u1)]) hx hb dX10_alike_56 hl (k := 1) rfl (by decide) (by decide) rfl (fun ls hl => ?_)
                                  refine lv_goto (tgt := 17) hx hb dX10_alike_59 (by decide) ?_
                                  refine lv_iload_n hx hb dX10_alike_17 rfl (lv_at hl 0 rfl) ?_
                                  refine lv_iload_n hx hb dX10_alike_18 rfl (lv_at hl 4 rfl) ?_
                                  refine lv_icmp_ge (tgt := 62) hx hb dX10_alike_19 (by decide) (fun ca_256 => ?_) (fun ca_256 => ?_)
                                  · have ca_257 : u1.toInt ≤ 5 := Int32.le_iff_toInt_le.mp ca_256
                                    have ia_258 : iv u1 5 5 := iv_El ca_257 ia_205 (iv_k (x := 5) (k := 5) rfl) (by decide)
                                    refine lv_iload_n hx hb dX10_alike_62 rfl (lv_at hl 4 rfl) ?_
                                    exact u_iret C h hr hQ (⟨τfa_215, xfa_215, (iv_w ia_258 (by decide)), tfa_215, (Fr.tr Ofa_215 (Fr.cv xfa_215 ofa_215z (by decide) (fun _ h_ => h_)) (fun _ h_ => h_) (fun _ h_ => h_)), gjfa_215⟩) (Nat.le_of_ble_eq_true rfl) (Nat.le_of_ble_eq_true rfl) dX10_alike_63
                                  · have ca_257 : 5 < u1.toInt := Int32.lt_iff_toInt_lt.mp (iv_nle ca_256)
                                    have ia_258 : iv u1 6 7 := iv_Lr ca_257 (iv_k (x := 5) (k := 5) rfl) ia_205 (by decide)
                                    refine lv_aload_n hx hb dX10_alike_22 rfl (lv_at hl 3 rfl) ?_
                                    refine t_getfd C h tfa_215 ha_228 (by decide) wf_10 (v := .ref bo) ka_217 fl_X10_19 dX10_alike_23 ?_
                                    refine lv_iload_n hx hb dX10_alike_26 rfl (lv_at hl 0 rfl) ?_
                                    obtain ⟨_, ra_259⟩ := t_rec tfa_215 ha_231 (by decide) wf_12
                                    refine k_q (r_V C h hl (As := [.int 5]) (rest := []) (s_X0_findY l D G b0 τfa_215 fa_215 tfa_215 bo ha_231 5 (iv_w (iv_k (x := 5) (k := 5) rfl) (by decide)) sn ha_232 ka_218 qn ha_233 ka_219 sz hsz ka_220 rn ka_221) ra_259 (Cn := RX0) (T := TX0) (N := 6) rfl rfl mk_X0_find w_594 w_595 w_596 w_597 ⟨Nat.le_of_ble_eq_true rfl, Nat.le_of_ble_eq_true rfl⟩ rfl (Nat.le_of_ble_eq_true rfl) ⟨Nat.le_of_ble_eq_true rfl, Nat.le_of_ble_eq_true rfl⟩ rfl dX10_alike_27) h (fun ra_260 fa_261 H locs pa_262 h => ?_)
                                    have na_263 : (5 : Int32).toInt = 5 := rfl
                                    obtain ⟨qra_260, tfa_261, ogfa_261, x0ra_260⟩ := pa_262
                                    have x0ra_260 : ra_260 = if (0 : Int) ≤ 5 ∧ (5 : Int) < sz.toInt then rn (Int.toNat 5) else none := x0ra_260
                                    have egfa_261 := Fr.nil2 ogfa_261
                                    subst egfa_261
                                    have tra_260 := qra_260
                                    refine lv_astoreO (lv' := [(4, va_rf ra_260), (3, .int 5), (2, .ref qa_6), (0, .ref u0), (1, .int u1)]) hx hb dX10_alike_30 hl (by decide) rfl (fun ls hl => ?_)
                                    refine lv_aloadO hx hb dX10_alike_32 (lv_at hl 0 rfl) ?_
                                    rcases va_rfc ra_260 with eqa_265 | ⟨qa_265, eqa_265⟩
                                    · subst eqa_265
                                      rw [if_pos (by omega)] at x0ra_260; exact absurd x0ra_260.symm (hall _ (by omega))
                                    · subst eqa_265
                                      have tqa_265 : τfa_215 qa_265 = 1 := tra_260 _ rfl
                                      have hl : lv_has ls 5 [(4, .ref qa_265), (3, .int 5), (2, .ref qa_6), (0, .ref u0), (1, .int u1)] := hl
                                      show W _ _ _ _ _ _ _ _ _ _ _ _ _ _ _ (F0 m 34 ls [.ref qa_265])
                                      refine lv_ifnull hx hb dX10_alike_34 ?_
                                      refine lv_aload_n hx hb dX10_alike_37 rfl (lv_at hl 3 rfl) ?_
                                      refine lv_aload hx hb dX10_alike_38 (lv_at hl 0 rfl) ?_
                                      obtain ⟨_, ra_266⟩ := t_rec tfa_215 ha_228 (by decide) wf_10
                                      refine k_q (r_V C h hl (As := [.ref qa_265]) (rest := []) (s_X10_terms l D G b0 τfa_215 fa_215 tfa_215 u0 ha_228 qa_265 tqa_265 gq rq mq ha_234 ka_222 gjfa_215) ra_266 (Cn := RX10) (T := TX10) (N := 10) rfl rfl mk_X10_terms w_728 w_730 w_18 w_731 ⟨Nat.le_of_ble_eq_true rfl, Nat.le_of_ble_eq_true rfl⟩ rfl (Nat.le_of_ble_eq_true rfl) ⟨Nat.le_of_ble_eq_true rfl, Nat.le_of_ble_eq_true rfl⟩ rfl dX10_alike_40) h (fun ra_267 fa_268 H locs pa_269 h => ?_)
                                      obtain ⟨τfa_268, exfa_268, qra_267, tfa_268, ogfa_268, x0ra_267, gjfa_268⟩ := pa_269
                                      have ofa_268 : Fr [0, 1, 3, 20, 21, 22, 23, 24, 25, 1004, 20001, 20002, 20007, 20008, 20009, 20010, 20011, 22001, 22002, 22003, 22004, 23001, 23002, 23003, 23004] τfa_215 fa_215 fa_268 := Fr.tr ofa_215z ogfa_268 (by decide) (by decide)
                                      have ka_270 := atp.fr ka_217 ogfa_268 ha_228 (by decide)
                                      have ka_271 := atp.fr ka_218 ogfa_268 ha_231 (by decide)
                                      have ka_272 := atp.fr ka_219 ogfa_268 ha_232 (by decide)
                                      have ka_273 := atp.fr ka_220 ogfa_268 ha_232 (by decide)
                                      have ka_274 := atp.fr ka_221 ogfa_268 ha_233 (by decide)
                                      have ka_275 := atp.fr ka_222 ogfa_268 ha_228 (by decide)
                                      have ka_276 := x0ra_267 _ _ ha_242 ka_223
                                      have ka_277 := x0ra_267 _ _ ha_229 ktqa_249
                                      have ka_278 := x0ra_267 _ _ ha_243 ka_225
                                      have ka_279 := x0ra_267 _ _ ha_240 ka_226
                                      have ka_280 := x0ra_267 _ _ ha_241 ka_227
                                      have ka_281 := x0ra_267 _ _ ha_230 ktqa_244
                                      have Ofa_268 : Fr [0, 1, 3, 20, 21, 22, 23, 24, 25, 1004, 20001, 20002, 20007, 20008, 20009, 20010, 20011, 22001, 22002, 22003, 22004, 23001, 23002, 23003, 23004] τ f fa_268 := Fr.tr Ofa_215 (Fr.cv xfa_215 ofa_268 (by decide) (fun _ h_ => h_)) (fun _ h_ => h_) (fun _ h_ => h_)
                                      have xfa_268 : Ex τ τfa_268 := Ex.tr xfa_215 exfa_268
                                      have ha_282 : τfa_268 u0 = 10 := Ex.at exfa_268 ha_228 (by decide)
                                      have ha_283 : τfa_268 qa_6 = 1 := Ex.at exfa_268 ha_229 (by decide)
                                      have ha_284 : τfa_268 qa_265 = 1 := Ex.at exfa_268 tqa_265 (by decide)
                                      have ha_285 : τfa_268 bo = 12 := Ex.at exfa_268 ha_231 (by decide)
                                      have ha_286 : τfa_268 sn = 15 := Ex.at exfa_268 ha_232 (by decide)
                                      have ha_287 : τfa_268 qn = 4 := Ex.at exfa_268 ha_233 (by decide)
                                      have ha_288 : τfa_268 gq = 20 := Ex.at exfa_268 ha_234 (by decide)
                                      have ha_289 : τfa_268 qa_35 = 3 := Ex.at exfa_268 ha_235 (by decide)
                                      have ha_290 : τfa_268 qa_249 = 3 := Ex.at exfa_268 tqa_249 (by decide)
                                      have ha_291 : τfa_268 qa_94 = 3 := Ex.at exfa_268 ha_237 (by decide)
                                      have ha_292 : τfa_268 qa_141 = 3 := Ex.at exfa_268 ha_238 (by decide)
                                      have ha_293 : τfa_268 qa_191 = 3 := Ex.at exfa_268 ha_239 (by decide)
                                      have ha_294 : τfa_268 qa_244 = 3 := Ex.at exfa_268 tqa_244 (by decide)
                                      have ha_295 : τfa_268 qa_115 = 1 := Ex.at exfa_268 ha_240 (by decide)
                                      have ha_296 : τfa_268 qa_162 = 1 := Ex.at exfa_268 ha_241 (by decide)
                                      have ha_297 : τfa_268 qa_17 = 1 := Ex.at exfa_268 ha_242 (by decide)
                                      have ha_298 : τfa_268 qa_212 = 1 := Ex.at exfa_268 ha_230 (by decide)
                                      have ha_299 : τfa_268 qa_71 = 1 := Ex.at exfa_268 ha_243 (by decide)
                                      have ofa_268z := Fr.rf [0, 1, 3, 20, 21, 22, 23, 24, 25, 1004, 20001, 20002, 20007, 20008, 20009, 20010, 20011, 22001, 22002, 22003, 22004, 23001, 23002, 23003, 23004] τfa_268 fa_268
                                      obtain ⟨qa_300, rfl, tqa_300, ktqa_300⟩ := qra_267
                                      refine lv_aload_n hx hb dX10_alike_43 rfl (lv_at hl 3 rfl) ?_
                                      refine lv_aload_n hx hb dX10_alike_44 rfl (lv_at hl 2 rfl) ?_
                                      obtain ⟨_, ra_301⟩ := t_rec tfa_268 ha_282 (by decide) wf_10
                                      refine k_q (r_V C h hl (As := [.ref qa_6]) (rest := [.ref qa_300]) (s_X10_termsB l D G b0 τfa_268 fa_268 tfa_268 u0 ha_282 qa_6 ha_283 qa_249 ha_290 ka_277) ra_301 (Cn := RX10) (T := TX10) (N := 10) rfl rfl mk_X10_terms w_728 w_730 w_18 w_731 ⟨Nat.le_of_ble_eq_true rfl, Nat.le_of_ble_eq_true rfl⟩ rfl (Nat.le_of_ble_eq_true rfl) ⟨Nat.le_of_ble_eq_true rfl, Nat.le_of_ble_eq_true rfl⟩ rfl dX10_alike_45) h (fun ra_302 fa_303 H locs pa_304 h => ?_)
                                      obtain ⟨qra_302, tfa_303, ogfa_303⟩ := pa_304
                                      have egfa_303 := Fr.nil2 ogfa_303
                                      subst egfa_303
                                      obtain ⟨qa_305, rfl, tqa_305, ktqa_305⟩ := qra_302
                                      refine k_i (r_S C h hl (As := [.ref qa_300, .ref qa_305]) (rest := []) (s_X10_areAlike l D G b0 τfa_268 fa_268 tfa_268 qa_300 tqa_300 qa_305 tqa_305) mk_X10_areAlike w_1019 w_1020 w_1021 ⟨Nat.le_of_ble_eq_true rfl, Nat.le_of_ble_eq_true rfl⟩ rfl (Nat.le_of_ble_eq_true rfl) ⟨Nat.le_of_ble_eq_true rfl, Nat.le_of_ble_eq_true rfl⟩ rfl dX10_alike_48) h (fun ra_306 fa_307 H locs pa_308 h => ?_)
                                      obtain ⟨ira_306, tfa_307, ogfa_307⟩ := pa_308
                                      have egfa_307 := Fr.nil2 ogfa_307
                                      subst egfa_307
                                      refine lv_if_eq (tgt := 56) hx hb dX10_alike_51 (by decide) (fun ca_309 => ?_) (fun ca_309 => ?_)
                                      · have ca_310 : ra_306.toInt = 0 := congrArg Int32.toInt ca_309
                                        have ia_311 : iv ra_306 0 0 := iv_Q ca_310 ira_306 (iv_k (x := 0) (k := 0) rfl) (by decide)
                                        refine lv_iinc (v := 6) (lv' := [(3, .int 6), (4, .ref qa_265), (2, .ref qa_6), (0, .ref u0), (1, .int u1)]) hx hb dX10_alike_56 hl (k := 1) rfl (by decide) (by decide) rfl (fun ls hl => ?_)
                                        refine lv_goto (tgt := 17) hx hb dX10_alike_59 (by decide) ?_
                                        refine lv_iload_n hx hb dX10_alike_17 rfl (lv_at hl 0 rfl) ?_
                                        refine lv_iload_n hx hb dX10_alike_18 rfl (lv_at hl 4 rfl) ?_
                                        refine lv_icmp_ge (tgt := 62) hx hb dX10_alike_19 (by decide) (fun ca_312 => ?_) (fun ca_312 => ?_)
                                        · have ca_313 : u1.toInt ≤ 6 := Int32.le_iff_toInt_le.mp ca_312
                                          have ia_314 : iv u1 6 6 := iv_El ca_313 ia_258 (iv_k (x := 6) (k := 6) rfl) (by decide)
                                          refine lv_iload_n hx hb dX10_alike_62 rfl (lv_at hl 4 rfl) ?_
                                          exact u_iret C h hr hQ (⟨τfa_268, xfa_268, (iv_w ia_314 (by decide)), tfa_268, (Fr.tr Ofa_268 (Fr.cv xfa_268 ofa_268z (by decide) (fun _ h_ => h_)) (fun _ h_ => h_) (fun _ h_ => h_)), gjfa_268⟩) (Nat.le_of_ble_eq_true rfl) (Nat.le_of_ble_eq_true rfl) dX10_alike_63
                                        · have ca_313 : 6 < u1.toInt := Int32.lt_iff_toInt_lt.mp (iv_nle ca_312)
                                          have ia_314 : iv u1 7 7 := iv_Lr ca_313 (iv_k (x := 6) (k := 6) rfl) ia_258 (by decide)
                                          refine lv_aload_n hx hb dX10_alike_22 rfl (lv_at hl 3 rfl) ?_
                                          refine t_getfd C h tfa_268 ha_282 (by decide) wf_10 (v := .ref bo) ka_270 fl_X10_19 dX10_alike_23 ?_
                                          refine lv_iload_n hx hb dX10_alike_26 rfl (lv_at hl 0 rfl) ?_
                                          obtain ⟨_, ra_315⟩ := t_rec tfa_268 ha_285 (by decide) wf_12
                                          refine k_q (r_V C h hl (As := [.int 6]) (rest := []) (s_X0_findY l D G b0 τfa_268 fa_268 tfa_268 bo ha_285 6 (iv_w (iv_k (x := 6) (k := 6) rfl) (by decide)) sn ha_286 ka_271 qn ha_287 ka_272 sz hsz ka_273 rn ka_274) ra_315 (Cn := RX0) (T := TX0) (N := 6) rfl rfl mk_X0_find w_594 w_595 w_596 w_597 ⟨Nat.le_of_ble_eq_true rfl, Nat.le_of_ble_eq_true rfl⟩ rfl (Nat.le_of_ble_eq_true rfl) ⟨Nat.le_of_ble_eq_true rfl, Nat.le_of_ble_eq_true rfl⟩ rfl dX10_alike_27) h (fun ra_316 fa_317 H locs pa_318 h => ?_)
                                          have na_319 : (6 : Int32).toInt = 6 := rfl
                                          obtain ⟨qra_316, tfa_317, ogfa_317, x0ra_316⟩ := pa_318
                                          have x0ra_316 : ra_316 = if (0 : Int) ≤ 6 ∧ (6 : Int) < sz.toInt then rn (Int.toNat 6) else none := x0ra_316
                                          have egfa_317 := Fr.nil2 ogfa_317
                                          subst egfa_317
                                          have tra_316 := qra_316
                                          refine lv_astoreO (lv' := [(4, va_rf ra_316), (3, .int 6), (2, .ref qa_6), (0, .ref u0), (1, .int u1)]) hx hb dX10_alike_30 hl (by decide) rfl (fun ls hl => ?_)
                                          refine lv_aloadO hx hb dX10_alike_32 (lv_at hl 0 rfl) ?_
                                          rcases va_rfc ra_316 with eqa_321 | ⟨qa_321, eqa_321⟩
                                          · subst eqa_321
                                            rw [if_pos (by omega)] at x0ra_316; exact absurd x0ra_316.symm (hall _ (by omega))
                                          · subst eqa_321
                                            have tqa_321 : τfa_268 qa_321 = 1 := tra_316 _ rfl
                                            have hl : lv_has ls 5 [(4, .ref qa_321), (3, .int 6), (2, .ref qa_6), (0, .ref u0), (1, .int u1)] := hl
                                            show W _ _ _ _ _ _ _ _ _ _ _ _ _ _ _ (F0 m 34 ls [.ref qa_321])
                                            refine lv_ifnull hx hb dX10_alike_34 ?_
                                            refine lv_aload_n hx hb dX10_alike_37 rfl (lv_at hl 3 rfl) ?_
                                            refine lv_aload hx hb dX10_alike_38 (lv_at hl 0 rfl) ?_
                                            obtain ⟨_, ra_322⟩ := t_rec tfa_268 ha_282 (by decide) wf_10
                                            refine k_q (r_V C h hl (As := [.ref qa_321]) (rest := []) (s_X10_terms l D G b0 τfa_268 fa_268 tfa_268 u0 ha_282 qa_321 tqa_321 gq rq mq ha_288 ka_275 gjfa_268) ra_322 (Cn := RX10) (T := TX10) (N := 10) rfl rfl mk_X10_terms w_728 w_730 w_18 w_731 ⟨Nat.le_of_ble_eq_true rfl, Nat.le_of_ble_eq_true rfl⟩ rfl (Nat.le_of_ble_eq_true rfl) ⟨Nat.le_of_ble_eq_true rfl, Nat.le_of_ble_eq_true rfl⟩ rfl dX10_alike_40) h (fun ra_323 fa_324 H locs pa_325 h => ?_)
                                            obtain ⟨τfa_324, exfa_324, qra_323, tfa_324, ogfa_324, x0ra_323, gjfa_324⟩ := pa_325
                                            have ofa_324 : Fr [0, 1, 3, 20, 21, 22, 23, 24, 25, 1004, 20001, 20002, 20007, 20008, 20009, 20010, 20011, 22001, 22002, 22003, 22004, 23001, 23002, 23003, 23004] τfa_268 fa_268 fa_324 := Fr.tr ofa_268z ogfa_324 (by decide) (by decide)
                                            have ka_326 := atp.fr ka_270 ogfa_324 ha_282 (by decide)
                                            have ka_327 := atp.fr ka_271 ogfa_324 ha_285 (by decide)
                                            have ka_328 := atp.fr ka_272 ogfa_324 ha_286 (by decide)
                                            have ka_329 := atp.fr ka_273 ogfa_324 ha_286 (by decide)
                                            have ka_330 := atp.fr ka_274 ogfa_324 ha_287 (by decide)
                                            have ka_331 := atp.fr ka_275 ogfa_324 ha_282 (by decide)
                                            have ka_332 := x0ra_323 _ _ ha_297 ka_276
                                            have ka_333 := x0ra_323 _ _ ha_283 ktqa_305
                                            have ka_334 := x0ra_323 _ _ ha_299 ka_278
                                            have ka_335 := x0ra_323 _ _ ha_295 ka_279
                                            have ka_336 := x0ra_323 _ _ ha_296 ka_280
                                            have ka_337 := x0ra_323 _ _ ha_298 ka_281
                                            have ka_338 := x0ra_323 _ _ ha_284 ktqa_300
                                            have Ofa_324 : Fr [0, 1, 3, 20, 21, 22, 23, 24, 25, 1004, 20001, 20002, 20007, 20008, 20009, 20010, 20011, 22001, 22002, 22003, 22004, 23001, 23002, 23003, 23004] τ f fa_324 := Fr.tr Ofa_268 (Fr.cv xfa_268 ofa_324 (by decide) (fun _ h_ => h_)) (fun _ h_ => h_) (fun _ h_ => h_)
                                            have xfa_324 : Ex τ τfa_324 := Ex.tr xfa_268 exfa_324
                                            have ha_339 : τfa_324 u0 = 10 := Ex.at exfa_324 ha_282 (by decide)
                                            have ha_340 : τfa_324 qa_6 = 1 := Ex.at exfa_324 ha_283 (by decide)
                                            have ha_341 : τfa_324 qa_321 = 1 := Ex.at exfa_324 tqa_321 (by decide)
                                            have ha_342 : τfa_324 bo = 12 := Ex.at exfa_324 ha_285 (by decide)
                                            have ha_343 : τfa_324 sn = 15 := Ex.at exfa_324 ha_286 (by decide)
                                            have ha_344 : τfa_324 qn = 4 := Ex.at exfa_324 ha_287 (by decide)
                                            have ha_345 : τfa_324 gq = 20 := Ex.at exfa_324 ha_288 (by decide)
                                            have ha_346 : τfa_324 qa_35 = 3 := Ex.at exfa_324 ha_289 (by decide)
                                            have ha_347 : τfa_324 qa_305 = 3 := Ex.at exfa_324 tqa_305 (by decide)
                                            have ha_348 : τfa_324 qa_94 = 3 := Ex.at exfa_324 ha_291 (by decide)
                                            have ha_349 : τfa_324 qa_141 = 3 := Ex.at exfa_324 ha_292 (by decide)
                                            have ha_350 : τfa_324 qa_191 = 3 := Ex.at exfa_324 ha_293 (by decide)
                                            have ha_351 : τfa_324 qa_244 = 3 := Ex.at exfa_324 ha_294 (by decide)
                                            have ha_352 : τfa_324 qa_300 = 3 := Ex.at exfa_324 tqa_300 (by decide)
                                            have ha_353 : τfa_324 qa_115 = 1 := Ex.at exfa_324 ha_295 (by decide)
                                            have ha_354 : τfa_324 qa_162 = 1 := Ex.at exfa_324 ha_296 (by decide)
                                            have ha_355 : τfa_324 qa_17 = 1 := Ex.at exfa_324 ha_297 (by decide)
                                            have ha_356 : τfa_324 qa_212 = 1 := Ex.at exfa_324 ha_298 (by decide)
                                            have ha_357 : τfa_324 qa_265 = 1 := Ex.at exfa_324 ha_284 (by decide)
                                            have ha_358 : τfa_324 qa_71 = 1 := Ex.at exfa_324 ha_299 (by decide)
                                            have ofa_324z := Fr.rf [0, 1, 3, 20, 21, 22, 23, 24, 25, 1004, 20001, 20002, 20007, 20008, 20009, 20010, 20011, 22001, 22002, 22003, 22004, 23001, 23002, 23003, 23004] τfa_324 fa_324
                                            obtain ⟨qa_359, rfl, tqa_359, ktqa_359⟩ := qra_323
                                            refine lv_aload_n hx hb dX10_alike_43 rfl (lv_at hl 3 rfl) ?_
                                            refine lv_aload_n hx hb dX10_alike_44 rfl (lv_at hl 2 rfl) ?_
                                            obtain ⟨_, ra_360⟩ := t_rec tfa_324 ha_339 (by decide) wf_10
                                            refine k_q (r_V C h hl (As := [.ref qa_6]) (rest := [.ref qa_359]) (s_X10_termsB l D G b0 τfa_324 fa_324 tfa_324 u0 ha_339 qa_6 ha_340 qa_305 ha_347 ka_333) ra_360 (Cn := RX10) (T := TX10) (N := 10) rfl rfl mk_X10_terms w_728 w_730 w_18 w_731 ⟨Nat.le_of_ble_eq_true rfl, Nat.le_of_ble_eq_true rfl⟩ rfl (Nat.le_of_ble_eq_true rfl) ⟨Nat.le_of_ble_eq_true rfl, Nat.le_of_ble_eq_true rfl⟩ rfl dX10_alike_45) h (fun ra_361 fa_362 H locs pa_363 h => ?_)
                                            obtain ⟨qra_361, tfa_362, ogfa_362⟩ := pa_363
                                            have egfa_362 := Fr.nil2 ogfa_362
                                            subst egfa_362
                                            obtain ⟨qa_364, rfl, tqa_364, ktqa_364⟩ := qra_361
                                            refine k_i (r_S C h hl (As := [.ref qa_359, .ref qa_364]) (rest := []) (s_X10_areAlike l D G b0 τfa_324 fa_324 tfa_324 qa_359 tqa_359 qa_364 tqa_364) mk_X10_areAlike w_1019 w_1020 w_1021 ⟨Nat.le_of_ble_eq_true rfl, Nat.le_of_ble_eq_true rfl⟩ rfl (Nat.le_of_ble_eq_true rfl) ⟨Nat.le_of_ble_eq_true rfl, Nat.le_of_ble_eq_true rfl⟩ rfl dX10_alike_48) h (fun ra_365 fa_366 H locs pa_367 h => ?_)
                                            obtain ⟨ira_365, tfa_366, ogfa_366⟩ := pa_367
                                            have egfa_366 := Fr.nil2 ogfa_366
                                            subst egfa_366
                                            refine lv_if_eq (tgt := 56) hx hb dX10_alike_51 (by decide) (fun ca_368 => ?_) (fun ca_368 => ?_)
                                            · have ca_369 : ra_365.toInt = 0 := congrArg Int32.toInt ca_368
                                              have ia_370 : iv ra_365 0 0 := iv_Q ca_369 ira_365 (iv_k (x := 0) (k := 0) rfl) (by decide)
                                              refine lv_iinc (v := 7) (lv' := [(3, .int 7), (4, .ref qa_321), (2, .ref qa_6), (0, .ref u0), (1, .int u1)]) hx hb dX10_alike_56 hl (k := 1) rfl (by decide) (by decide) rfl (fun ls hl => ?_)
                                              refine lv_goto (tgt := 17) hx hb dX10_alike_59 (by decide) ?_
                                              refine lv_iload_n hx hb dX10_alike_17 rfl (lv_at hl 0 rfl) ?_
                                              refine lv_iload_n hx hb dX10_alike_18 rfl (lv_at hl 4 rfl) ?_
                                              refine lv_icmp_ge (tgt := 62) hx hb dX10_alike_19 (by decide) (fun ca_371 => ?_) (fun ca_371 => ?_)
                                              · have ca_372 : u1.toInt ≤ 7 := Int32.le_iff_toInt_le.mp ca_371
                                                refine lv_iload_n hx hb dX10_alike_62 rfl (lv_at hl 4 rfl) ?_
                                                exact u_iret C h hr hQ (⟨τfa_324, xfa_324, (iv_w ia_314 (by decide)), tfa_324, (Fr.tr Ofa_324 (Fr.cv xfa_324 ofa_324z (by decide) (fun _ h_ => h_)) (fun _ h_ => h_) (fun _ h_ => h_)), gjfa_324⟩) (Nat.le_of_ble_eq_true rfl) (Nat.le_of_ble_eq_true rfl) dX10_alike_63
                                              · have ca_372 : 7 < u1.toInt := Int32.lt_iff_toInt_lt.mp (iv_nle ca_371)
                                                exact (iv_cl_ ca_372 (iv_k (x := 7) (k := 7) rfl) ia_314 (by decide)).elim
                                            · have ca_369 : ra_365.toInt ≠ 0 := fun z_ => ca_368 (Int32.toInt_inj.mp z_)
                                              have ia_370 : iv ra_365 1 1 := iv_Nl ca_369 ira_365 (by decide)
                                              refine lv_iload_n hx hb dX10_alike_54 rfl (lv_at hl 1 rfl) ?_
                                              exact u_iret C h hr hQ (⟨τfa_324, xfa_324, ⟨by decide, by decide⟩, tfa_324, (Fr.tr Ofa_324 (Fr.cv xfa_324 ofa_324z (by decide) (fun _ h_ => h_)) (fun _ h_ => h_) (fun _ h_ => h_)), gjfa_324⟩) (Nat.le_of_ble_eq_true rfl) (Nat.le_of_ble_eq_true rfl) dX10_alike_55
                                      · have ca_310 : ra_306.toInt ≠ 0 := fun z_ => ca_309 (Int32.toInt_inj.mp z_)
                                        have ia_311 : iv ra_306 1 1 := iv_Nl ca_310 ira_306 (by decide)
                                        refine lv_iload_n hx hb dX10_alike_54 rfl (lv_at hl 1 rfl) ?_
                                        exact u_iret C h hr hQ (⟨τfa_268, xfa_268, ⟨by decide, by decide⟩, tfa_268, (Fr.tr Ofa_268 (Fr.cv xfa_268 ofa_268z (by decide) (fun _ h_ => h_)) (fun _ h_ => h_) (fun _ h_ => h_)), gjfa_268⟩) (Nat.le_of_ble_eq_true rfl) (Nat.le_of_ble_eq_true rfl) dX10_alike_55
                                · have ca_254 : ra_250.toInt ≠ 0 := fun z_ => ca_253 (Int32.toInt_inj.mp z_)
                                  have ia_255 : iv ra_250 1 1 := iv_Nl ca_254 ira_250 (by decide)
                                  refine lv_iload_n hx hb dX10_alike_54 rfl (lv_at hl 1 rfl) ?_
                                  exact u_iret C h hr hQ (⟨τfa_215, xfa_215, ⟨by decide, by decide⟩, tfa_215, (Fr.tr Ofa_215 (Fr.cv xfa_215 ofa_215z (by decide) (fun _ h_ => h_)) (fun _ h_ => h_) (fun _ h_ => h_)), gjfa_215⟩) (Nat.le_of_ble_eq_true rfl) (Nat.le_of_ble_eq_true rfl) dX10_alike_55
                          · have ca_201 : ra_197.toInt ≠ 0 := fun z_ => ca_200 (Int32.toInt_inj.mp z_)
                            have ia_202 : iv ra_197 1 1 := iv_Nl ca_201 ira_197 (by decide)
                            refine lv_iload_n hx hb dX10_alike_54 rfl (lv_at hl 1 rfl) ?_
                            exact u_iret C h hr hQ (⟨τfa_165, xfa_165, ⟨by decide, by decide⟩, tfa_165, (Fr.tr Ofa_165 (Fr.cv xfa_165 ofa_165z (by decide) (fun _ h_ => h_)) (fun _ h_ => h_) (fun _ h_ => h_)), gjfa_165⟩) (Nat.le_of_ble_eq_true rfl) (Nat.le_of_ble_eq_true rfl) dX10_alike_55
                    · have ca_151 : ra_147.toInt ≠ 0 := fun z_ => ca_150 (Int32.toInt_inj.mp z_)
                      have ia_152 : iv ra_147 1 1 := iv_Nl ca_151 ira_147 (by decide)
                      refine lv_iload_n hx hb dX10_alike_54 rfl (lv_at hl 1 rfl) ?_
                      exact u_iret C h hr hQ (⟨τfa_118, xfa_118, ⟨by decide, by decide⟩, tfa_118, (Fr.tr Ofa_118 (Fr.cv xfa_118 ofa_118z (by decide) (fun _ h_ => h_)) (fun _ h_ => h_) (fun _ h_ => h_)), gjfa_118⟩) (Nat.le_of_ble_eq_true rfl) (Nat.le_of_ble_eq_true rfl) dX10_alike_55
              · have ca_104 : ra_100.toInt ≠ 0 := fun z_ => ca_103 (Int32.toInt_inj.mp z_)
                have ia_105 : iv ra_100 1 1 := iv_Nl ca_104 ira_100 (by decide)
                refine lv_iload_n hx hb dX10_alike_54 rfl (lv_at hl 1 rfl) ?_
                exact u_iret C h hr hQ (⟨τfa_74, xfa_74, ⟨by decide, by decide⟩, tfa_74, (Fr.tr Ofa_74 (Fr.cv xfa_74 ofa_74z (by decide) (fun _ h_ => h_)) (fun _ h_ => h_) (fun _ h_ => h_)), gjfa_74⟩) (Nat.le_of_ble_eq_true rfl) (Nat.le_of_ble_eq_true rfl) dX10_alike_55
        · have ca_60 : ra_56.toInt ≠ 0 := fun z_ => ca_59 (Int32.toInt_inj.mp z_)
          have ia_61 : iv ra_56 1 1 := iv_Nl ca_60 ira_56 (by decide)
          refine lv_iload_n hx hb dX10_alike_54 rfl (lv_at hl 1 rfl) ?_
          exact u_iret C h hr hQ (⟨τfa_38, xfa_38, ⟨by decide, by decide⟩, tfa_38, (Fr.tr Ofa_38 (Fr.cv xfa_38 ofa_38z (by decide) (fun _ h_ => h_)) (fun _ h_ => h_) (fun _ h_ => h_)), gjfa_38⟩) (Nat.le_of_ble_eq_true rfl) (Nat.le_of_ble_eq_true rfl) dX10_alike_55
