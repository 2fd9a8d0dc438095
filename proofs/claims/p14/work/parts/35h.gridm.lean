
abbrev rm_s_X11_isLongX : Room := { frames := 1, cells := 0, slots := 0, locals := 25 }
set_option maxRecDepth 100000 in
set_option maxHeartbeats 4000000 in
theorem s_X11_isLongX (l : Launch) (D : va_G) (G : Nat → Nat) (b0 : Nat) (τ : Nat → Nat) (f : hM) (t : TI G 9 τ f) (u0 : Int32) (hu0 : iv u0 (-2147483648) 2147483647) : mI l yX11_isLong cX11_isLong 1 (.boolean) rm_s_X11_isLongX D G b0 f [.int u0] (fun r f1 => iv r 0 1 ∧ TI G 9 τ f1 ∧ Fr [] τ f f1 ∧ (r.toInt ≠ 0 → iv u0 0 60) ∧ (r.toInt = 0 → u0.toInt < 0 ∨ 60 < u0.toInt)) := by
  refine met2 (own := RX11) (by decide) rfl (Nat.le_of_ble_eq_true rfl) ?_
  intro p e s m args below meth c ls Q hQ C hr hini hl h
  have hl : lv_has ls 1 [(0, .int u0)] := hl
  obtain ⟨hx, hb, hml, hown, hts, hE0, hlk⟩ := id C
  have o := Fr.rf [] τ f
  refine lv_iload_n hx hb dX11_isLong_0 rfl (lv_at hl 0 rfl) ?_
  refine lv_i2l hx hb dX11_isLong_1 rfl (i_topL hu0 (fun w1 ew1 mw1 iw1 => ?_))
  refine lv_lconst (v := 0) hx hb dX11_isLong_2 (by decide) ?_
  refine lv_ldc2 (v := 60) hx hb hown (hts _ w_1692) dX11_isLong_3 ?_
  refine k_i (r_S C h hl (As := [.long w1, .long 0, .long 60]) (rest := []) (s_X11_isInX l D G b0 τ f t w1 0 60) mk_X11_isIn w_1624 w_1625 w_1626 ⟨Nat.le_of_ble_eq_true rfl, Nat.le_of_ble_eq_true rfl⟩ rfl (Nat.le_of_ble_eq_true rfl) ⟨Nat.le_of_ble_eq_true rfl, Nat.le_of_ble_eq_true rfl⟩ rfl dX11_isLong_6) h (fun r2 f3 H locs p4 h => ?_)
  have n5 : (0 : Int64).toInt = 0 := rfl
  have n6 : (60 : Int64).toInt = 60 := rfl
  obtain ⟨ir2, tf3, ogf3, cnr2, czr2⟩ := p4
  have egf3 := Fr.nil2 ogf3
  subst egf3
  exact u_zret C h hr hQ ir2 (⟨ir2, t, o, (by intro h_; have h9_ := cnr2 h_; omega), (by intro h_; have h9_ := czr2 h_; omega)⟩) (Nat.le_of_ble_eq_true rfl) (Nat.le_of_ble_eq_true rfl) dX11_isLong_9
abbrev rm_s_X11_isFarX : Room := { frames := 1, cells := 0, slots := 0, locals := 25 }
set_option maxRecDepth 100000 in
set_option maxHeartbeats 4000000 in
theorem s_X11_isFarX (l : Launch) (D : va_G) (G : Nat → Nat) (b0 : Nat) (τ : Nat → Nat) (f : hM) (t : TI G 9 τ f) (u0 : Int32) (hu0 : iv u0 (-2147483648) 2147483647) (u1 : Int32) (hu1 : iv u1 (-2147483648) 2147483647) : mI l yX11_isFar cX11_isFar 2 (.boolean) rm_s_X11_isFarX D G b0 f [.int u0, .int u1] (fun r f1 => iv r 0 1 ∧ TI G 9 τ f1 ∧ Fr [] τ f f1 ∧ (r.toInt ≠ 0 → u0.toInt < -70 ∨ 70 < u0.toInt ∨ u1.toInt < -70 ∨ 70 < u1.toInt) ∧ (r.toInt = 0 → iv u0 (-70) 70 ∧ iv u1 (-70) 70)) := by
  refine met2 (own := RX11) (by decide) rfl (Nat.le_of_ble_eq_true rfl) ?_
  intro p e s m args below meth c ls Q hQ C hr hini hl h
  have hl : lv_has ls 2 [(0, .int u0), (1, .int u1)] := hl
  obtain ⟨hx, hb, hml, hown, hts, hE0, hlk⟩ := id C
  have o := Fr.rf [] τ f
  refine lv_iload_n hx hb dX11_isFar_0 rfl (lv_at hl 0 rfl) ?_
  refine lv_i2l hx hb dX11_isFar_1 rfl (i_topL hu0 (fun w1 ew1 mw1 iw1 => ?_))
  refine lv_ldc2 (v := -70) hx hb hown (hts _ w_1696) dX11_isFar_2 ?_
  refine lv_ldc2 (v := 70) hx hb hown (hts _ w_1697) dX11_isFar_5 ?_
  refine k_i (r_S C h hl (As := [.long w1, .long (-70), .long 70]) (rest := []) (s_X11_isInX l D G b0 τ f t w1 (-70) 70) mk_X11_isIn w_1624 w_1625 w_1626 ⟨Nat.le_of_ble_eq_true rfl, Nat.le_of_ble_eq_true rfl⟩ rfl (Nat.le_of_ble_eq_true rfl) ⟨Nat.le_of_ble_eq_true rfl, Nat.le_of_ble_eq_true rfl⟩ rfl dX11_isFar_8) h (fun r2 f3 H locs p4 h => ?_)
  have n5 : (-70 : Int64).toInt = (-70) := rfl
  have n6 : (70 : Int64).toInt = 70 := rfl
  obtain ⟨ir2, tf3, ogf3, cnr2, czr2⟩ := p4
  have egf3 := Fr.nil2 ogf3
  subst egf3
  refine lv_if_eq (tgt := 28) hx hb dX11_isFar_11 (by decide) (fun c7 => ?_) (fun c7 => ?_)
  · have c8 : r2.toInt = 0 := congrArg Int32.toInt c7
    have i9 : iv r2 0 0 := iv_Q c8 ir2 (iv_k (x := 0) (k := 0) rfl) (by decide)
    have i10 := czr2 c8
    refine lv_iconst (v := 1) hx hb dX11_isFar_28 (by decide) ?_
    refine lv_goto (tgt := 33) hx hb dX11_isFar_29 (by decide) ?_
    exact u_zret C h hr hQ ⟨by decide, by decide⟩ (⟨⟨by decide, by decide⟩, t, o, (fun _ => (by omega)), (fun h_ => absurd h_ (by decide))⟩) (Nat.le_of_ble_eq_true rfl) (Nat.le_of_ble_eq_true rfl) dX11_isFar_33
  · have c11 : r2.toInt ≠ 0 := fun z_ => c7 (Int32.toInt_inj.mp z_)
    have i12 : iv r2 1 1 := iv_Nl c11 ir2 (by decide)
    obtain ⟨i13, i14⟩ := cnr2 c11
    have i15 : iv u0 (-70) 70 := ⟨by omega, by omega⟩
    refine lv_iload_n hx hb dX11_isFar_14 rfl (lv_at hl 1 rfl) ?_
    refine lv_i2l hx hb dX11_isFar_15 rfl (i_topL hu1 (fun w16 ew16 mw16 iw16 => ?_))
    refine lv_ldc2 (v := -70) hx hb hown (hts _ w_1696) dX11_isFar_16 ?_
    refine lv_ldc2 (v := 70) hx hb hown (hts _ w_1697) dX11_isFar_19 ?_
    refine k_i (r_S C h hl (As := [.long w16, .long (-70), .long 70]) (rest := []) (s_X11_isInX l D G b0 τ f t w16 (-70) 70) mk_X11_isIn w_1624 w_1625 w_1626 ⟨Nat.le_of_ble_eq_true rfl, Nat.le_of_ble_eq_true rfl⟩ rfl (Nat.le_of_ble_eq_true rfl) ⟨Nat.le_of_ble_eq_true rfl, Nat.le_of_ble_eq_true rfl⟩ rfl dX11_isFar_22) h (fun r17 f18 H locs p19 h => ?_)
    have n20 : (-70 : Int64).toInt = (-70) := rfl
    have n21 : (70 : Int64).toInt = 70 := rfl
    obtain ⟨ir17, tf18, ogf18, cnr17, czr17⟩ := p19
    have egf18 := Fr.nil2 ogf18
    subst egf18
    refine lv_if_ne (tgt := 32) hx hb dX11_isFar_25 (by decide) (fun c22 => ?_) (fun c22 => ?_)
    · have c23 : r17.toInt ≠ 0 := fun z_ => c22 (Int32.toInt_inj.mp z_)
      have i24 : iv r17 1 1 := iv_Nl c23 ir17 (by decide)
      obtain ⟨i25, i26⟩ := cnr17 c23
      have i27 : iv u1 (-70) 70 := ⟨by omega, by omega⟩
      refine lv_iconst (v := 0) hx hb dX11_isFar_32 (by decide) ?_
      exact u_zret C h hr hQ ⟨by decide, by decide⟩ (⟨⟨by decide, by decide⟩, t, o, (fun h_ => absurd h_ (by decide)), (fun _ => ⟨i15, i27⟩)⟩) (Nat.le_of_ble_eq_true rfl) (Nat.le_of_ble_eq_true rfl) dX11_isFar_33
    · have c28 : r17.toInt = 0 := congrArg Int32.toInt c22
      have i29 : iv r17 0 0 := iv_Q c28 ir17 (iv_k (x := 0) (k := 0) rfl) (by decide)
      have i30 := czr17 c28
      refine lv_iconst (v := 1) hx hb dX11_isFar_28 (by decide) ?_
      refine lv_goto (tgt := 33) hx hb dX11_isFar_29 (by decide) ?_
      exact u_zret C h hr hQ ⟨by decide, by decide⟩ (⟨⟨by decide, by decide⟩, t, o, (fun _ => (by omega)), (fun h_ => absurd h_ (by decide))⟩) (Nat.le_of_ble_eq_true rfl) (Nat.le_of_ble_eq_true rfl) dX11_isFar_33
abbrev rm_s_X11_isFewX : Room := { frames := 1, cells := 0, slots := 0, locals := 25 }
set_option maxRecDepth 100000 in
set_option maxHeartbeats 4000000 in
theorem s_X11_isFewX (l : Launch) (D : va_G) (G : Nat → Nat) (b0 : Nat) (τ : Nat → Nat) (f : hM) (t : TI G 9 τ f) (u0 : Int32) (hu0 : iv u0 (-2147483648) 2147483647) : mI l yX11_isFew cX11_isFew 1 (.boolean) rm_s_X11_isFewX D G b0 f [.int u0] (fun r f1 => iv r 0 1 ∧ TI G 9 τ f1 ∧ Fr [] τ f f1 ∧ (r.toInt ≠ 0 → iv u0 0 10) ∧ (r.toInt = 0 → u0.toInt < 0 ∨ 10 < u0.toInt)) := by
  refine met2 (own := RX11) (by decide) rfl (Nat.le_of_ble_eq_true rfl) ?_
  intro p e s m args below meth c ls Q hQ C hr hini hl h
  have hl : lv_has ls 1 [(0, .int u0)] := hl
  obtain ⟨hx, hb, hml, hown, hts, hE0, hlk⟩ := id C
  have o := Fr.rf [] τ f
  refine lv_iload_n hx hb dX11_isFew_0 rfl (lv_at hl 0 rfl) ?_
  refine lv_i2l hx hb dX11_isFew_1 rfl (i_topL hu0 (fun w1 ew1 mw1 iw1 => ?_))
  refine lv_lconst (v := 0) hx hb dX11_isFew_2 (by decide) ?_
  refine lv_ldc2 (v := 10) hx hb hown (hts _ w_1823) dX11_isFew_3 ?_
  refine k_i (r_S C h hl (As := [.long w1, .long 0, .long 10]) (rest := []) (s_X11_isInX l D G b0 τ f t w1 0 10) mk_X11_isIn w_1624 w_1625 w_1626 ⟨Nat.le_of_ble_eq_true rfl, Nat.le_of_ble_eq_true rfl⟩ rfl (Nat.le_of_ble_eq_true rfl) ⟨Nat.le_of_ble_eq_true rfl, Nat.le_of_ble_eq_true rfl⟩ rfl dX11_isFew_6) h (fun r2 f3 H locs p4 h => ?_)
  have n5 : (0 : Int64).toInt = 0 := rfl
  have n6 : (10 : Int64).toInt = 10 := rfl
  obtain ⟨ir2, tf3, ogf3, cnr2, czr2⟩ := p4
  have egf3 := Fr.nil2 ogf3
  subst egf3
  exact u_zret C h hr hQ ir2 (⟨ir2, t, o, (by intro h_; have h9_ := cnr2 h_; omega), (by intro h_; have h9_ := czr2 h_; omega)⟩) (Nat.le_of_ble_eq_true rfl) (Nat.le_of_ble_eq_true rfl) dX11_isFew_9
abbrev rm_s_X11_goesOnX : Room := { frames := 2, cells := 0, slots := 0, locals := 58 }
set_option maxRecDepth 100000 in
set_option maxHeartbeats 4000000 in
theorem s_X11_goesOnX (l : Launch) (D : va_G) (G : Nat → Nat) (b0 : Nat) (τ : Nat → Nat) (f : hM) (t : TI G 9 τ f) (u0 : Nat) (hu0 : τ u0 = 60) (u1 : Int32) (hu1 : iv u1 0 7) (u2 : Int32) (hu2 : iv u2 (-2147483648) 2147483647) (u3 : Int32) (hu3 : iv u3 (-2147483648) 2147483647) (u4 : Int32) (hu4 : iv u4 0 60) (bq : Nat) (hbq : τ bq = 63) (k_u0_6 : atp f u0 (fd 6 (.ref bq))) (rb : Nat → Int32) (hRbq : atp f bq (eqc (.inl (G 1, 81, .inl rb)))) (hNG : NGs τ f u0) : mV l yX11_goesOn cX11_goesOn 6 rm_s_X11_goesOnX D G b0 f [.ref u0, .int u1, .int u2, .int u3, .int u4] (fun f1 => TI G 9 τ f1 ∧ Fr [60, 67, 60013, 60014, 60015] τ f f1 ∧ (GRp G τ f1 u0 (gN rb u1.toInt u2.toInt u3.toInt u4.toInt.toNat)) ∧ NGs τ f1 u0) := by
  refine met2 (own := RX11) (by decide) rfl (Nat.le_of_ble_eq_true rfl) ?_
  intro p e s m args below meth c ls Q hQ C hr hini hl h
  have hl : lv_has ls 6 [(0, .ref u0), (1, .int u1), (2, .int u2), (3, .int u3), (4, .int u4)] := hl
  obtain ⟨hx, hb, hml, hown, hts, hE0, hlk⟩ := id C
  have o := Fr.rf [60, 67, 60013, 60014, 60015] τ f
  have L8 : ∀ (n8 : Nat) (ls : Array Slot) (f_8 : hM) (H : Heap) (locs : List Loc) (v8_5 : Int32) (g8_u0_14 : Int32), 60 - v8_5.toInt < (n8 : Int) → lv_has ls 6 [(0, .ref u0), (1, .int u1), (2, .int u2), (3, .int u3), (4, .int u4), (5, .int v8_5)] → hw D b0 s.heap f_8 H locs → TI G 9 τ f_8 → Fr [60, 67, 60013, 60014, 60015] τ f f_8 → iv v8_5 0 60 → iv g8_u0_14 0 60 → atp f_8 u0 (fd 6 (.ref bq)) → atp f_8 bq (eqc (.inl (G 1, 81, .inl rb))) → atp f_8 u0 (fd 14 (.int g8_u0_14)) → g8_u0_14.toInt = v8_5.toInt → (GRp G τ f_8 u0 (gN rb u1.toInt u2.toInt u3.toInt (Int.toNat v8_5.toInt))) → v8_5.toInt ≤ u4.toInt → W p l e rm_s_X11_goesOnX s m args below meth c H locs 0 0 Q (F0 m 8 ls []) := by
    intro n8
    induction n8 with
    | zero => intro ls f_8 H locs v8_5 g8_u0_14 hm8 hl h t_8 o_8 iv8_5 ig8_u0_14 k8_u0_6 k8_bq_R k8_u0_14 hv8_0 hv8_1 hv8_2; exact absurd hm8 (by omega)
    | succ n8 ih8 =>
      intro ls f_8 H locs v8_5 g8_u0_14 hm8 hl h t_8 o_8 iv8_5 ig8_u0_14 k8_u0_6 k8_bq_R k8_u0_14 hv8_0 hv8_1 hv8_2
      refine lv_iload hx hb dX11_goesOn_8 (lv_at hl 5 rfl) ?_
      refine lv_iload hx hb dX11_goesOn_10 (lv_at hl 4 rfl) ?_
      refine lv_icmp_ge (tgt := 28) hx hb dX11_goesOn_12 (by decide) (fun c1 => ?_) (fun c1 => ?_)
      · have c2 : u4.toInt ≤ v8_5.toInt := Int32.le_iff_toInt_le.mp c1
        exact u_vret C h hr hQ (⟨t_8, o_8, (by rw [show u4.toInt.toNat = v8_5.toInt.toNat by omega]; exact hv8_1), GRp.ng hv8_1⟩) (Nat.le_of_ble_eq_true rfl) (Nat.le_of_ble_eq_true rfl) dX11_goesOn_28
      · have c3 : v8_5.toInt < u4.toInt := Int32.lt_iff_toInt_lt.mp (iv_nle c1)
        have i4 : iv v8_5 0 59 := iv_Ll c3 iv8_5 hu4 (by decide)
        have i5 : iv u4 1 60 := iv_Lr c3 iv8_5 hu4 (by decide)
        refine lv_aload_n hx hb dX11_goesOn_15 rfl (lv_at hl 0 rfl) ?_
        refine lv_iload_n hx hb dX11_goesOn_16 rfl (lv_at hl 1 rfl) ?_
        refine lv_iload_n hx hb dX11_goesOn_17 rfl (lv_at hl 2 rfl) ?_
        refine lv_iload_n hx hb dX11_goesOn_18 rfl (lv_at hl 3 rfl) ?_
        have i6 : iv g8_u0_14 0 59 := ⟨by omega, by omega⟩
        obtain ⟨_, r7⟩ := t_rec t_8 hu0 (by decide) wf_60
        refine k_v (r_V C h hl (As := [.int u1, .int u2, .int u3]) (rest := []) (s_X11_goesX l D G b0 τ f_8 t_8 u0 hu0 u1 hu1 u2 hu2 u3 hu3 g8_u0_14 i6 k8_u0_14 bq hbq k8_u0_6 rb k8_bq_R (gN rb u1.toInt u2.toInt u3.toInt (Int.toNat v8_5.toInt)) hv8_1) r7 (Cn := RX11) (T := TX11) (N := 32) rfl rfl mk_X11_goes w_1709 w_1711 w_59 w_1712 ⟨Nat.le_of_ble_eq_true rfl, Nat.le_of_ble_eq_true rfl⟩ rfl (Nat.le_of_ble_eq_true rfl) ⟨Nat.le_of_ble_eq_true rfl, Nat.le_of_ble_eq_true rfl⟩ rfl dX11_goesOn_19) h (fun f9 H locs p10 h => ?_)
        obtain ⟨tf9, ogf9, x0r8, ⟨gg_f9, kpu0_14f9, ipu0_14f9, rpu0_14f9⟩⟩ := p10
        have of9 : Fr [60, 67, 60013, 60014, 60015] τ f f9 := Fr.tr o_8 ogf9 (by decide) (by decide)
        have k11 := atp.fk k8_u0_6 ogf9 hu0 (by decide) (by decide)
        have k12 := atp.fr k8_bq_R ogf9 hbq (by decide)
        have grf9 : GRp G τ f9 u0 (gN rb u1.toInt u2.toInt u3.toInt (v8_5.toInt.toNat + 1)) := by
          rw [gN, show ((v8_5.toInt.toNat : Nat) : Int) = g8_u0_14.toInt by omega]; exact x0r8
        refine i_inc hx hb dX11_goesOn_22 hl (k := 5) rfl i4 rfl (lo := 1) (hi := 60) (by decide) (by decide) (lv' := fun v => [(5, .int v), (0, .ref u0), (1, .int u1), (2, .int u2), (3, .int u3), (4, .int u4)]) (fun _ => rfl) (fun z13 ls ez13 mz13 iz13 hl => ?_)
        refine lv_goto (tgt := 8) hx hb dX11_goesOn_25 (by decide) ?_
        exact ih8 ls f9 H locs z13 gg_f9 (show 60 - z13.toInt < _ by omega) (lv_cons hl 1 rfl (lv_cons hl 2 rfl (lv_cons hl 3 rfl (lv_cons hl 4 rfl (lv_cons hl 5 rfl (lv_cons hl 0 rfl (lv_nil hl))))))) h tf9 of9 (iv_w iz13 (by decide)) (iv_w ipu0_14f9 (by decide)) k11 k12 kpu0_14f9 (show gg_f9.toInt = z13.toInt by omega) (show GRp G τ f9 u0 (gN rb u1.toInt u2.toInt u3.toInt (Int.toNat z13.toInt)) from (by rw [show Int.toNat (z13.toInt) = v8_5.toInt.toNat + 1 by omega]; exact grf9)) (show z13.toInt ≤ u4.toInt by omega)
  refine lv_aload_n hx hb dX11_goesOn_0 rfl (lv_at hl 0 rfl) ?_
  refine lv_iload_n hx hb dX11_goesOn_1 rfl (lv_at hl 1 rfl) ?_
  obtain ⟨_, r14⟩ := t_rec t hu0 (by decide) wf_60
  refine k_v (r_V C h hl (As := [.int u1]) (rest := []) (s_X11_beginsX l D G b0 τ f t u0 hu0 u1 hu1 bq hbq k_u0_6 rb hRbq hNG) r14 (Cn := RX11) (T := TX11) (N := 32) rfl rfl mk_X11_begins w_1702 w_1704 w_58 w_1705 ⟨Nat.le_of_ble_eq_true rfl, Nat.le_of_ble_eq_true rfl⟩ rfl (Nat.le_of_ble_eq_true rfl) ⟨Nat.le_of_ble_eq_true rfl, Nat.le_of_ble_eq_true rfl⟩ rfl dX11_goesOn_2) h (fun f16 H locs p17 h => ?_)
  obtain ⟨tf16, ogf16, x0r15, ⟨gg_f16, kpu0_14f16, ipu0_14f16, rpu0_14f16⟩, ngf16⟩ := p17
  have of16 : Fr [60, 67, 60013, 60014, 60015] τ f f16 := Fr.tr o ogf16 (by decide) (by decide)
  have k18 := atp.fk k_u0_6 ogf16 hu0 (by decide) (by decide)
  have k19 := atp.fr hRbq ogf16 hbq (by decide)
  have k20 := NGs.fr hNG ogf16 hu0 (by decide)
  refine lv_iconst (v := 0) hx hb dX11_goesOn_5 (by decide) ?_
  refine lv_istore (lv' := [(5, .int 0), (0, .ref u0), (1, .int u1), (2, .int u2), (3, .int u3), (4, .int u4)]) hx hb dX11_goesOn_6 hl (by decide) rfl (fun ls hl => ?_)
  exact L8 61 ls f16 H locs 0 gg_f16 (by decide) (lv_cons hl 1 rfl (lv_cons hl 2 rfl (lv_cons hl 3 rfl (lv_cons hl 4 rfl (lv_cons hl 5 rfl (lv_cons hl 0 rfl (lv_nil hl))))))) h tf16 of16 ⟨by decide, by decide⟩ (iv_w ipu0_14f16 (by decide)) k18 k19 kpu0_14f16 (show gg_f16.toInt = 0 by omega) (show GRp G τ f16 u0 (gN rb u1.toInt u2.toInt u3.toInt (Int.toNat 0)) from (by rw [show Int.toNat 0 = 0 from rfl, gN]; exact x0r15)) (show 0 ≤ u4.toInt by omega)
abbrev rm_s_X11_gridAtX : Room := { frames := 1, cells := 0, slots := 0, locals := 25 }
set_option maxRecDepth 100000 in
set_option maxHeartbeats 4000000 in
theorem s_X11_gridAtX (l : Launch) (D : va_G) (G : Nat → Nat) (b0 : Nat) (τ : Nat → Nat) (f : hM) (t : TI G 9 τ f) (u0 : Nat) (hu0 : τ u0 = 60) (u1 : Int32) (hu1 : iv u1 (-2147483648) 2147483647) (u2 : Int32) (hu2 : iv u2 (-2147483648) 2147483647) (gf : Nat → Int64) (hGR : GRp G τ f u0 gf)  : mL l yX11_gridAt cX11_gridAt 3 rm_s_X11_gridAtX D G b0 f [.ref u0, .int u1, .int u2] (fun r f1 => TI G 9 τ f1 ∧ Fr [] τ f f1 ∧ (r = if -65 ≤ u1.toInt ∧ u1.toInt ≤ 74 ∧ -65 ≤ u2.toInt ∧ u2.toInt ≤ 74 then gf (cel u1.toInt u2.toInt) else 0)) := by
  refine met2 (own := RX11) (by decide) rfl (Nat.le_of_ble_eq_true rfl) ?_
  intro p e s m args below meth c ls Q hQ C hr hini hl h
  have hl : lv_has ls 3 [(0, .ref u0), (1, .int u1), (2, .int u2)] := hl
  obtain ⟨hx, hb, hml, hown, hts, hE0, hlk⟩ := id C
  have o := Fr.rf [] τ f
  obtain ⟨ga, gb, rg, rh, hab, ⟨hga, hgb⟩, k_u0_12, k_u0_13, hRga, hRgb, hag⟩ := hGR
  refine lv_iload_n hx hb dX11_gridAt_0 rfl (lv_at hl 1 rfl) ?_
  refine lv_i2l hx hb dX11_gridAt_1 rfl (i_topL hu1 (fun w1 ew1 mw1 iw1 => ?_))
  refine lv_ldc2 (v := -65) hx hb hown (hts _ w_1724) dX11_gridAt_2 ?_
  refine lv_ldc2 (v := 74) hx hb hown (hts _ w_1725) dX11_gridAt_5 ?_
  refine k_i (r_S C h hl (As := [.long w1, .long (-65), .long 74]) (rest := []) (s_X11_isInX l D G b0 τ f t w1 (-65) 74) mk_X11_isIn w_1624 w_1625 w_1626 ⟨Nat.le_of_ble_eq_true rfl, Nat.le_of_ble_eq_true rfl⟩ rfl (Nat.le_of_ble_eq_true rfl) ⟨Nat.le_of_ble_eq_true rfl, Nat.le_of_ble_eq_true rfl⟩ rfl dX11_gridAt_8) h (fun r2 f3 H locs p4 h => ?_)
  have n5 : (-65 : Int64).toInt = (-65) := rfl
  have n6 : (74 : Int64).toInt = 74 := rfl
  obtain ⟨ir2, tf3, ogf3, cnr2, czr2⟩ := p4
  have egf3 := Fr.nil2 ogf3
  subst egf3
  refine lv_if_eq (tgt := 41) hx hb dX11_gridAt_11 (by decide) (fun c7 => ?_) (fun c7 => ?_)
  · have c8 : r2.toInt = 0 := congrArg Int32.toInt c7
    have i9 : iv r2 0 0 := iv_Q c8 ir2 (iv_k (x := 0) (k := 0) rfl) (by decide)
    have i10 := czr2 c8
    refine lv_lconst (v := 0) hx hb dX11_gridAt_41 (by decide) ?_
    exact u_lret C h hr hQ (⟨t, o, (by rw [if_neg (by omega)])⟩) (Nat.le_of_ble_eq_true rfl) (Nat.le_of_ble_eq_true rfl) dX11_gridAt_42
  · have c11 : r2.toInt ≠ 0 := fun z_ => c7 (Int32.toInt_inj.mp z_)
    have i12 : iv r2 1 1 := iv_Nl c11 ir2 (by decide)
    obtain ⟨i13, i14⟩ := cnr2 c11
    have i15 : iv u1 (-65) 74 := ⟨by omega, by omega⟩
    refine lv_iload_n hx hb dX11_gridAt_14 rfl (lv_at hl 2 rfl) ?_
    refine lv_i2l hx hb dX11_gridAt_15 rfl (i_topL hu2 (fun w16 ew16 mw16 iw16 => ?_))
    refine lv_ldc2 (v := -65) hx hb hown (hts _ w_1724) dX11_gridAt_16 ?_
    refine lv_ldc2 (v := 74) hx hb hown (hts _ w_1725) dX11_gridAt_19 ?_
    refine k_i (r_S C h hl (As := [.long w16, .long (-65), .long 74]) (rest := []) (s_X11_isInX l D G b0 τ f t w16 (-65) 74) mk_X11_isIn w_1624 w_1625 w_1626 ⟨Nat.le_of_ble_eq_true rfl, Nat.le_of_ble_eq_true rfl⟩ rfl (Nat.le_of_ble_eq_true rfl) ⟨Nat.le_of_ble_eq_true rfl, Nat.le_of_ble_eq_true rfl⟩ rfl dX11_gridAt_22) h (fun r17 f18 H locs p19 h => ?_)
    have n20 : (-65 : Int64).toInt = (-65) := rfl
    have n21 : (74 : Int64).toInt = 74 := rfl
    obtain ⟨ir17, tf18, ogf18, cnr17, czr17⟩ := p19
    have egf18 := Fr.nil2 ogf18
    subst egf18
    refine lv_if_eq (tgt := 41) hx hb dX11_gridAt_25 (by decide) (fun c22 => ?_) (fun c22 => ?_)
    · have c23 : r17.toInt = 0 := congrArg Int32.toInt c22
      have i24 : iv r17 0 0 := iv_Q c23 ir17 (iv_k (x := 0) (k := 0) rfl) (by decide)
      have i25 := czr17 c23
      refine lv_lconst (v := 0) hx hb dX11_gridAt_41 (by decide) ?_
      exact u_lret C h hr hQ (⟨t, o, (by rw [if_neg (by omega)])⟩) (Nat.le_of_ble_eq_true rfl) (Nat.le_of_ble_eq_true rfl) dX11_gridAt_42
    · have c26 : r17.toInt ≠ 0 := fun z_ => c22 (Int32.toInt_inj.mp z_)
      have i27 : iv r17 1 1 := iv_Nl c26 ir17 (by decide)
      obtain ⟨i28, i29⟩ := cnr17 c26
      have i30 : iv u2 (-65) 74 := ⟨by omega, by omega⟩
      refine lv_aload_n hx hb dX11_gridAt_28 rfl (lv_at hl 0 rfl) ?_
      refine t_getfd C h t hu0 (by decide) wf_60 (v := .ref ga) k_u0_12 fl_X11_29 dX11_gridAt_29 ?_
      refine lv_iload_n hx hb dX11_gridAt_32 rfl (lv_at hl 1 rfl) ?_
      refine lv_iload_n hx hb dX11_gridAt_33 rfl (lv_at hl 2 rfl) ?_
      refine k_i (r_S C h hl (As := [.int u1, .int u2]) (rest := [.ref ga]) (s_X11_cell l D G b0 τ f t u1 i15 u2 i30) mk_X11_cell w_1706 w_1707 w_1708 ⟨Nat.le_of_ble_eq_true rfl, Nat.le_of_ble_eq_true rfl⟩ rfl (Nat.le_of_ble_eq_true rfl) ⟨Nat.le_of_ble_eq_true rfl, Nat.le_of_ble_eq_true rfl⟩ rfl dX11_gridAt_34) h (fun r31 f32 H locs p33 h => ?_)
      obtain ⟨ir31, tf32, ogf32, x0r31⟩ := p33
      have egf32 := Fr.nil2 ogf32
      subst egf32
      have cqr31 : r31.toInt.toNat = cel u1.toInt u2.toInt := by unfold cel; omega
      refine e_lald C h t hga (by decide) wf_67 hRga (iv_in ir31 (by decide)) dX11_gridAt_37 (fun w34 ew34 => ?_)
      refine lv_goto (tgt := 42) hx hb dX11_gridAt_38 (by decide) ?_
      exact u_lret C h hr hQ (⟨t, o, (by rw [if_pos (by omega), ew34, cqr31]; exact hag _ (cel_lt (by unfold inG; omega)))⟩) (Nat.le_of_ble_eq_true rfl) (Nat.le_of_ble_eq_true rfl) dX11_gridAt_42
abbrev rm_s_X11_atX : Room := { frames := 3, cells := 0, slots := 0, locals := 83 }
set_option maxRecDepth 100000 in
set_option maxHeartbeats 4000000 in
theorem s_X11_atX (l : Launch) (D : va_G) (G : Nat → Nat) (b0 : Nat) (τ : Nat → Nat) (f : hM) (t : TI G 9 τ f) (u0 : Nat) (hu0 : τ u0 = 60) (u1 : Int32) (hu1 : iv u1 (-2147483648) 2147483647) (u2 : Int32) (hu2 : iv u2 (-2147483648) 2147483647) (u3 : Int32) (hu3 : iv u3 (-2147483648) 2147483647) (u4 : Int32) (hu4 : iv u4 (-2147483648) 2147483647) (u5 : Int32) (hu5 : iv u5 (-2147483648) 2147483647) (bq : Nat) (hbq : τ bq = 63) (k_u0_6 : atp f u0 (fd 6 (.ref bq))) (rb : Nat → Int32) (hRbq : atp f bq (eqc (.inl (G 1, 81, .inl rb)))) (hNG : NGs τ f u0) : mI l yX11_at cX11_at 6 (.int) rm_s_X11_atX D G b0 f [.ref u0, .int u1, .int u2, .int u3, .int u4, .int u5] (fun r f1 => iv r (-2147483648) 2147483647 ∧ TI G 9 τ f1 ∧ Fr [60, 67, 60001, 60013, 60014, 60015] τ f f1 ∧ ((((0 ≤ u1.toInt ∧ u1.toInt ≤ 2) ∧ (0 ≤ u2.toInt ∧ u2.toInt < (rb 80).toInt) ∧ (0 ≤ u3.toInt ∧ u3.toInt ≤ 60) ∧ (-70 ≤ u4.toInt ∧ u4.toInt ≤ 70) ∧ -70 ≤ u5.toInt ∧ u5.toInt ≤ 70) → r.toInt = (Ag rb u2.toInt u1.toInt 1 u3.toInt.toNat u4.toInt u5.toInt).toInt) ∧ (¬ ((0 ≤ u1.toInt ∧ u1.toInt ≤ 2) ∧ (0 ≤ u2.toInt ∧ u2.toInt < (rb 80).toInt) ∧ (0 ≤ u3.toInt ∧ u3.toInt ≤ 60) ∧ (-70 ≤ u4.toInt ∧ u4.toInt ≤ 70) ∧ -70 ≤ u5.toInt ∧ u5.toInt ≤ 70) → r.toInt = -1)) ∧ NGs τ f1 u0) := by
  refine met2 (own := RX11) (by decide) rfl (Nat.le_of_ble_eq_true rfl) ?_
  intro p e s m args below meth c ls Q hQ C hr hini hl h
  have hl : lv_has ls 6 [(0, .ref u0), (1, .int u1), (2, .int u2), (3, .int u3), (4, .int u4), (5, .int u5)] := hl
  obtain ⟨hx, hb, hml, hown, hts, hE0, hlk⟩ := id C
  have o := Fr.rf [60, 67, 60001, 60013, 60014, 60015] τ f
  obtain ⟨hbk_, hbn_⟩ := bk9_get t hbq hRbq
  refine lv_aload_n hx hb dX11_at_0 rfl (lv_at hl 0 rfl) ?_
  refine lv_iconst (v := 0) hx hb dX11_at_1 (by decide) ?_
  refine t_put C h t o hu0 (by decide) (by decide) (by decide) wf_60 fw_60 (k := 0) rfl flw_X11_75 (Or.inr ⟨_, _, _, rfl, rfl⟩) (v := .int 0) rfl rfl ⟨_, rfl, ⟨by decide, by decide⟩⟩ dX11_at_2 (fun f1 H locs h tf1 of1 hq ha_ hn_ hk_ => ?_)
  have k2 := hk_ 6 _ (by decide) k_u0_6
  have k3 := atp.tg hRbq hq hbq (by decide)
  have k4 := NGs.pk hNG hk_ (by decide) (by decide)
  have k5 := ha_
  refine lv_iload_n hx hb dX11_at_5 rfl (lv_at hl 1 rfl) ?_
  refine lv_i2l hx hb dX11_at_6 rfl (i_topL hu1 (fun w6 ew6 mw6 iw6 => ?_))
  refine lv_lconst (v := 0) hx hb dX11_at_7 (by decide) ?_
  refine lv_ldc2 (v := 2) hx hb hown (hts _ w_1647) dX11_at_8 ?_
  refine k_i (r_S C h hl (As := [.long w6, .long 0, .long 2]) (rest := []) (s_X11_isInX l D G b0 τ f1 tf1 w6 0 2) mk_X11_isIn w_1624 w_1625 w_1626 ⟨Nat.le_of_ble_eq_true rfl, Nat.le_of_ble_eq_true rfl⟩ rfl (Nat.le_of_ble_eq_true rfl) ⟨Nat.le_of_ble_eq_true rfl, Nat.le_of_ble_eq_true rfl⟩ rfl dX11_at_11) h (fun r7 f8 H locs p9 h => ?_)
  have n10 : (0 : Int64).toInt = 0 := rfl
  have n11 : (2 : Int64).toInt = 2 := rfl
  obtain ⟨ir7, tf8, ogf8, cnr7, czr7⟩ := p9
  have egf8 := Fr.nil2 ogf8
  subst egf8
  refine lv_if_eq (tgt := 42) hx hb dX11_at_14 (by decide) (fun c12 => ?_) (fun c12 => ?_)
  · have c13 : r7.toInt = 0 := congrArg Int32.toInt c12
    have i14 : iv r7 0 0 := iv_Q c13 ir7 (iv_k (x := 0) (k := 0) rfl) (by decide)
    have i15 := czr7 c13
    refine lv_iconst (v := -1) hx hb dX11_at_42 (by decide) ?_
    exact u_iret C h hr hQ (⟨⟨by decide, by decide⟩, tf1, of1, ⟨fun z_ => absurd z_ (by omega), fun _ => rfl⟩, k4⟩) (Nat.le_of_ble_eq_true rfl) (Nat.le_of_ble_eq_true rfl) dX11_at_43
  · have c16 : r7.toInt ≠ 0 := fun z_ => c12 (Int32.toInt_inj.mp z_)
    have i17 : iv r7 1 1 := iv_Nl c16 ir7 (by decide)
    obtain ⟨i18, i19⟩ := cnr7 c16
    have i20 : iv u1 0 2 := ⟨by omega, by omega⟩
    refine lv_aload_n hx hb dX11_at_17 rfl (lv_at hl 0 rfl) ?_
    refine lv_iload_n hx hb dX11_at_18 rfl (lv_at hl 2 rfl) ?_
    obtain ⟨_, r21⟩ := t_rec tf1 hu0 (by decide) wf_60
    refine k_i (r_V C h hl (As := [.int u2]) (rest := []) (s_X11_isSetX l D G b0 τ f1 tf1 u0 hu0 u2 hu2 bq hbq k2 rb k3) r21 (Cn := RX11) (T := TX11) (N := 32) rfl rfl mk_X11_isSet w_1620 w_1622 w_51 w_1623 ⟨Nat.le_of_ble_eq_true rfl, Nat.le_of_ble_eq_true rfl⟩ rfl (Nat.le_of_ble_eq_true rfl) ⟨Nat.le_of_ble_eq_true rfl, Nat.le_of_ble_eq_true rfl⟩ rfl dX11_at_19) h (fun r22 f23 H locs p24 h => ?_)
    obtain ⟨ir22, tf23, ogf23, cnr22, czr22⟩ := p24
    have egf23 := Fr.nil2 ogf23
    subst egf23
    refine lv_if_eq (tgt := 42) hx hb dX11_at_22 (by decide) (fun c25 => ?_) (fun c25 => ?_)
    · have c26 : r22.toInt = 0 := congrArg Int32.toInt c25
      have i27 : iv r22 0 0 := iv_Q c26 ir22 (iv_k (x := 0) (k := 0) rfl) (by decide)
      have i28 := czr22 c26
      refine lv_iconst (v := -1) hx hb dX11_at_42 (by decide) ?_
      exact u_iret C h hr hQ (⟨⟨by decide, by decide⟩, tf1, of1, ⟨fun z_ => absurd z_ (by omega), fun _ => rfl⟩, k4⟩) (Nat.le_of_ble_eq_true rfl) (Nat.le_of_ble_eq_true rfl) dX11_at_43
    · have c29 : r22.toInt ≠ 0 := fun z_ => c25 (Int32.toInt_inj.mp z_)
      have i30 : iv r22 1 1 := iv_Nl c29 ir22 (by decide)
      obtain ⟨i31, i32⟩ := cnr22 c29
      refine lv_iload_n hx hb dX11_at_25 rfl (lv_at hl 3 rfl) ?_
      refine k_i (r_S C h hl (As := [.int u3]) (rest := []) (s_X11_isLongX l D G b0 τ f1 tf1 u3 hu3) mk_X11_isLong w_1689 w_1690 w_1691 ⟨Nat.le_of_ble_eq_true rfl, Nat.le_of_ble_eq_true rfl⟩ rfl (Nat.le_of_ble_eq_true rfl) ⟨Nat.le_of_ble_eq_true rfl, Nat.le_of_ble_eq_true rfl⟩ rfl dX11_at_26) h (fun r33 f34 H locs p35 h => ?_)
      obtain ⟨ir33, tf34, ogf34, cnr33, czr33⟩ := p35
      have egf34 := Fr.nil2 ogf34
      subst egf34
      refine lv_if_eq (tgt := 42) hx hb dX11_at_29 (by decide) (fun c36 => ?_) (fun c36 => ?_)
      · have c37 : r33.toInt = 0 := congrArg Int32.toInt c36
        have i38 : iv r33 0 0 := iv_Q c37 ir33 (iv_k (x := 0) (k := 0) rfl) (by decide)
        have i39 := czr33 c37
        refine lv_iconst (v := -1) hx hb dX11_at_42 (by decide) ?_
        exact u_iret C h hr hQ (⟨⟨by decide, by decide⟩, tf1, of1, ⟨fun z_ => absurd z_ (by omega), fun _ => rfl⟩, k4⟩) (Nat.le_of_ble_eq_true rfl) (Nat.le_of_ble_eq_true rfl) dX11_at_43
      · have c40 : r33.toInt ≠ 0 := fun z_ => c36 (Int32.toInt_inj.mp z_)
        have i41 : iv r33 1 1 := iv_Nl c40 ir33 (by decide)
        have i42 := cnr33 c40
        refine lv_iload hx hb dX11_at_32 (lv_at hl 4 rfl) ?_
        refine lv_iload hx hb dX11_at_34 (lv_at hl 5 rfl) ?_
        refine k_i (r_S C h hl (As := [.int u4, .int u5]) (rest := []) (s_X11_isFarX l D G b0 τ f1 tf1 u4 hu4 u5 hu5) mk_X11_isFar w_1693 w_1694 w_1695 ⟨Nat.le_of_ble_eq_true rfl, Nat.le_of_ble_eq_true rfl⟩ rfl (Nat.le_of_ble_eq_true rfl) ⟨Nat.le_of_ble_eq_true rfl, Nat.le_of_ble_eq_true rfl⟩ rfl dX11_at_36) h (fun r43 f44 H locs p45 h => ?_)
        obtain ⟨ir43, tf44, ogf44, cnr43, czr43⟩ := p45
        have egf44 := Fr.nil2 ogf44
        subst egf44
        refine lv_if_eq (tgt := 44) hx hb dX11_at_39 (by decide) (fun c46 => ?_) (fun c46 => ?_)
        · have c47 : r43.toInt = 0 := congrArg Int32.toInt c46
          have i48 : iv r43 0 0 := iv_Q c47 ir43 (iv_k (x := 0) (k := 0) rfl) (by decide)
          obtain ⟨i49, i50⟩ := czr43 c47
          refine lv_aload_n hx hb dX11_at_44 rfl (lv_at hl 0 rfl) ?_
          refine lv_iload_n hx hb dX11_at_45 rfl (lv_at hl 2 rfl) ?_
          refine lv_iload_n hx hb dX11_at_46 rfl (lv_at hl 1 rfl) ?_
          refine lv_iconst (v := 1) hx hb dX11_at_47 (by decide) ?_
          refine lv_iload_n hx hb dX11_at_48 rfl (lv_at hl 3 rfl) ?_
          obtain ⟨_, r54⟩ := t_rec tf1 hu0 (by decide) wf_60
          refine k_v (r_V C h hl (As := [.int u2, .int u1, .int 1, .int u3]) (rest := []) (s_X11_goesOnX l D G b0 τ f1 tf1 u0 hu0 u2 i31 u1 (iv_w i20 (by decide)) 1 (iv_w (iv_k (x := 1) (k := 1) rfl) (by decide)) u3 i42 bq hbq k2 rb k3 k4) r54 (Cn := RX11) (T := TX11) (N := 32) rfl rfl mk_X11_goesOn w_1698 w_1700 w_57 w_1701 ⟨Nat.le_of_ble_eq_true rfl, Nat.le_of_ble_eq_true rfl⟩ rfl (Nat.le_of_ble_eq_true rfl) ⟨Nat.le_of_ble_eq_true rfl, Nat.le_of_ble_eq_true rfl⟩ rfl dX11_at_49) h (fun f56 H locs p57 h => ?_)
          have n58 : (1 : Int32).toInt = 1 := rfl
          obtain ⟨tf56, ogf56, x0r55, ngf56⟩ := p57
          have of56 : Fr [60, 67, 60001, 60013, 60014, 60015] τ f f56 := Fr.tr of1 ogf56 (by decide) (by decide)
          have k59 := atp.fk k2 ogf56 hu0 (by decide) (by decide)
          have k60 := atp.fr k3 ogf56 hbq (by decide)
          refine lv_aload_n hx hb dX11_at_52 rfl (lv_at hl 0 rfl) ?_
          refine lv_iload hx hb dX11_at_53 (lv_at hl 4 rfl) ?_
          refine lv_iload hx hb dX11_at_55 (lv_at hl 5 rfl) ?_
          obtain ⟨_, r61⟩ := t_rec tf56 hu0 (by decide) wf_60
          refine k_l (r_V C h hl (As := [.int u4, .int u5]) (rest := []) (s_X11_gridAtX l D G b0 τ f56 tf56 u0 hu0 u4 (iv_w i49 (by decide)) u5 (iv_w i50 (by decide)) (gN rb u2.toInt u1.toInt (1 : Int32).toInt u3.toInt.toNat) x0r55) r61 (Cn := RX11) (T := TX11) (N := 32) rfl rfl mk_X11_gridAt w_1720 w_1722 w_60 w_1723 ⟨Nat.le_of_ble_eq_true rfl, Nat.le_of_ble_eq_true rfl⟩ rfl (Nat.le_of_ble_eq_true rfl) ⟨Nat.le_of_ble_eq_true rfl, Nat.le_of_ble_eq_true rfl⟩ rfl dX11_at_57) h (fun r62 f63 H locs p64 h => ?_)
          obtain ⟨tf63, ogf63, x0r62⟩ := p64
          have egf63 := Fr.nil2 ogf63
          subst egf63
          refine lv_l2i hx hb dX11_at_60 rfl (i_top (iv_any _) (fun z65 ez65 iz65 => ?_))
          exact u_iret C h hr hQ (⟨iz65, tf56, of56, ⟨fun _ => mat_val (bk_hb hbk_ (by omega)) (by omega) ez65 x0r62, fun z_ => absurd (by omega) z_⟩, ngf56⟩) (Nat.le_of_ble_eq_true rfl) (Nat.le_of_ble_eq_true rfl) dX11_at_61
        · have c51 : r43.toInt ≠ 0 := fun z_ => c46 (Int32.toInt_inj.mp z_)
          have i52 : iv r43 1 1 := iv_Nl c51 ir43 (by decide)
          have i53 := cnr43 c51
          refine lv_iconst (v := -1) hx hb dX11_at_42 (by decide) ?_
          exact u_iret C h hr hQ (⟨⟨by decide, by decide⟩, tf1, of1, ⟨fun z_ => absurd z_ (by omega), fun _ => rfl⟩, k4⟩) (Nat.le_of_ble_eq_true rfl) (Nat.le_of_ble_eq_true rfl) dX11_at_43
