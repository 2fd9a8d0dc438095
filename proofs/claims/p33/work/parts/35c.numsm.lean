
abbrev rm_s_X11_isFieldX : Room := { frames := 1, cells := 0, slots := 0, locals := 25 }
set_option maxRecDepth 100000 in
set_option maxHeartbeats 4000000 in
theorem s_X11_isFieldX (l : Launch) (D : va_G) (G : Nat → Nat) (b0 : Nat) (τ : Nat → Nat) (f : hM) (t : TI G 9 τ f) (u0 : Int32) (hu0 : iv u0 (-2147483648) 2147483647) (u1 : Int32) (hu1 : iv u1 (-2147483648) 2147483647) : mI l yX11_isField cX11_isField 2 (.boolean) rm_s_X11_isFieldX D G b0 f [.int u0, .int u1] (fun r f1 => iv r 0 1 ∧ TI G 9 τ f1 ∧ Fr [] τ f f1 ∧ (r.toInt ≠ 0 → iv u0 1 1000002 ∧ iv u1 1 1000002) ∧ (r.toInt = 0 → u0.toInt < 1 ∨ 1000002 < u0.toInt ∨ u1.toInt < 1 ∨ 1000002 < u1.toInt)) := by
  refine met2 (own := RX11) (by decide) rfl (Nat.le_of_ble_eq_true rfl) ?_
  intro p e s m args below meth c ls Q hQ C hr hini hl h
  have hl : lv_has ls 2 [(0, .int u0), (1, .int u1)] := hl
  obtain ⟨hx, hb, hml, hown, hts, hE0, hlk⟩ := id C
  have o := Fr.rf [] τ f
  refine lv_iload_n hx hb dX11_isField_0 rfl (lv_at hl 0 rfl) ?_
  refine lv_i2l hx hb dX11_isField_1 rfl (i_topL hu0 (fun w1 ew1 mw1 iw1 => ?_))
  refine lv_lconst (v := 1) hx hb dX11_isField_2 (by decide) ?_
  refine lv_ldc2 (v := 1000002) hx hb hown (hts _ w_1766) dX11_isField_3 ?_
  refine k_i (r_S C h hl (As := [.long w1, .long 1, .long 1000002]) (rest := []) (s_X11_isInX l D G b0 τ f t w1 1 1000002) mk_X11_isIn w_1624 w_1625 w_1626 ⟨Nat.le_of_ble_eq_true rfl, Nat.le_of_ble_eq_true rfl⟩ rfl (Nat.le_of_ble_eq_true rfl) ⟨Nat.le_of_ble_eq_true rfl, Nat.le_of_ble_eq_true rfl⟩ rfl dX11_isField_6) h (fun r2 f3 H locs p4 h => ?_)
  have n5 : (1 : Int64).toInt = 1 := rfl
  have n6 : (1000002 : Int64).toInt = 1000002 := rfl
  obtain ⟨ir2, tf3, ogf3, cnr2, czr2⟩ := p4
  have egf3 := Fr.nil2 ogf3
  subst egf3
  refine lv_if_eq (tgt := 28) hx hb dX11_isField_9 (by decide) (fun c7 => ?_) (fun c7 => ?_)
  · have c8 : r2.toInt = 0 := congrArg Int32.toInt c7
    have i9 : iv r2 0 0 := iv_Q c8 ir2 (iv_k (x := 0) (k := 0) rfl) (by decide)
    have i10 := czr2 c8
    refine lv_iconst (v := 0) hx hb dX11_isField_28 (by decide) ?_
    exact u_zret C h hr hQ ⟨by decide, by decide⟩ (⟨⟨by decide, by decide⟩, t, o, (fun h_ => absurd h_ (by decide)), (fun _ => (by omega))⟩) (Nat.le_of_ble_eq_true rfl) (Nat.le_of_ble_eq_true rfl) dX11_isField_29
  · have c11 : r2.toInt ≠ 0 := fun z_ => c7 (Int32.toInt_inj.mp z_)
    have i12 : iv r2 1 1 := iv_Nl c11 ir2 (by decide)
    obtain ⟨i13, i14⟩ := cnr2 c11
    have i15 : iv u0 1 1000002 := ⟨by omega, by omega⟩
    refine lv_iload_n hx hb dX11_isField_12 rfl (lv_at hl 1 rfl) ?_
    refine lv_i2l hx hb dX11_isField_13 rfl (i_topL hu1 (fun w16 ew16 mw16 iw16 => ?_))
    refine lv_lconst (v := 1) hx hb dX11_isField_14 (by decide) ?_
    refine lv_ldc2 (v := 1000002) hx hb hown (hts _ w_1766) dX11_isField_15 ?_
    refine k_i (r_S C h hl (As := [.long w16, .long 1, .long 1000002]) (rest := []) (s_X11_isInX l D G b0 τ f t w16 1 1000002) mk_X11_isIn w_1624 w_1625 w_1626 ⟨Nat.le_of_ble_eq_true rfl, Nat.le_of_ble_eq_true rfl⟩ rfl (Nat.le_of_ble_eq_true rfl) ⟨Nat.le_of_ble_eq_true rfl, Nat.le_of_ble_eq_true rfl⟩ rfl dX11_isField_18) h (fun r17 f18 H locs p19 h => ?_)
    have n20 : (1 : Int64).toInt = 1 := rfl
    have n21 : (1000002 : Int64).toInt = 1000002 := rfl
    obtain ⟨ir17, tf18, ogf18, cnr17, czr17⟩ := p19
    have egf18 := Fr.nil2 ogf18
    subst egf18
    refine lv_if_eq (tgt := 28) hx hb dX11_isField_21 (by decide) (fun c22 => ?_) (fun c22 => ?_)
    · have c23 : r17.toInt = 0 := congrArg Int32.toInt c22
      have i24 : iv r17 0 0 := iv_Q c23 ir17 (iv_k (x := 0) (k := 0) rfl) (by decide)
      have i25 := czr17 c23
      refine lv_iconst (v := 0) hx hb dX11_isField_28 (by decide) ?_
      exact u_zret C h hr hQ ⟨by decide, by decide⟩ (⟨⟨by decide, by decide⟩, t, o, (fun h_ => absurd h_ (by decide)), (fun _ => (by omega))⟩) (Nat.le_of_ble_eq_true rfl) (Nat.le_of_ble_eq_true rfl) dX11_isField_29
    · have c26 : r17.toInt ≠ 0 := fun z_ => c22 (Int32.toInt_inj.mp z_)
      have i27 : iv r17 1 1 := iv_Nl c26 ir17 (by decide)
      obtain ⟨i28, i29⟩ := cnr17 c26
      have i30 : iv u1 1 1000002 := ⟨by omega, by omega⟩
      refine lv_iconst (v := 1) hx hb dX11_isField_24 (by decide) ?_
      refine lv_goto (tgt := 29) hx hb dX11_isField_25 (by decide) ?_
      exact u_zret C h hr hQ ⟨by decide, by decide⟩ (⟨⟨by decide, by decide⟩, t, o, (fun _ => ⟨i15, i30⟩), (fun h_ => absurd h_ (by decide))⟩) (Nat.le_of_ble_eq_true rfl) (Nat.le_of_ble_eq_true rfl) dX11_isField_29
abbrev rm_s_X11_power2X : Room := { frames := 0, cells := 0, slots := 0, locals := 0 }
set_option maxRecDepth 100000 in
set_option maxHeartbeats 4000000 in
theorem s_X11_power2X (l : Launch) (D : va_G) (G : Nat → Nat) (b0 : Nat) (τ : Nat → Nat) (f : hM) (t : TI G 9 τ f) (u0 : Int64) (u1 : Int32) (hu1 : iv u1 1000001 1000001) (hr0 : 0 ≤ u0.toInt ∧ u0.toInt ≤ 1000002) : mL l yX11_power2 cX11_power2 8 rm_s_X11_power2X D G b0 f [.long u0, .int u1] (fun r f1 => ivl r (-1000002) 1000002 ∧ TI G 9 τ f1 ∧ Fr [] τ f f1 ∧ (r.toInt = pinv u0.toInt) ∧ (0 ≤ r.toInt ∧ r.toInt ≤ 1000002)) := by
  refine met2 (own := RX11) (by decide) rfl (Nat.le_of_ble_eq_true rfl) ?_
  intro p e s m args below meth c ls Q hQ C hr hini hl h
  have hl : lv_has ls 8 [(0, .long u0), (2, .int u1)] := hl
  obtain ⟨hx, hb, hml, hown, hts, hE0, hlk⟩ := id C
  have o := Fr.rf [] τ f
  have L8 : ∀ (n8 : Nat) (ls : Array Slot) (f_8 : hM) (H : Heap) (locs : List Loc) (v8_3 : Int64) (v8_5 : Int64) (v8_7 : Int32), v8_7.toInt < (n8 : Int) → lv_has ls 8 [(3, .long v8_3), (5, .long v8_5), (7, .int v8_7)] → hw D b0 s.heap f_8 H locs → TI G 9 τ f_8 → Fr [] τ f f_8 → ivl v8_3 (-1000002) 1000002 → iv v8_7 0 1000001 → 0 ≤ v8_3.toInt ∧ v8_3.toInt ≤ 1000002 ∧ 0 ≤ v8_5.toInt ∧ v8_5.toInt ≤ 1000002 → (sqm 40 v8_3.toInt v8_5.toInt v8_7.toInt = sqm 40 1 u0.toInt u1.toInt) → W p l e rm_s_X11_power2X s m args below meth c H locs 0 0 Q (F0 m 8 ls []) := by
    intro n8
    induction n8 with
    | zero => intro ls f_8 H locs v8_3 v8_5 v8_7 hm8 hl h t_8 o_8 iv8_3 iv8_7 hv8_0 hv8_1; exact absurd hm8 (by omega)
    | succ n8 ih8 =>
      intro ls f_8 H locs v8_3 v8_5 v8_7 hm8 hl h t_8 o_8 iv8_3 iv8_7 hv8_0 hv8_1
      refine lv_iload hx hb dX11_power2_8 (lv_at hl 2 rfl) ?_
      refine lv_if_le (tgt := 50) hx hb dX11_power2_10 (by decide) (fun c1 => ?_) (fun c1 => ?_)
      · have c2 : v8_7.toInt ≤ 0 := Int32.le_iff_toInt_le.mp c1
        have i3 : iv v8_7 0 0 := iv_El c2 iv8_7 (iv_k (x := 0) (k := 0) rfl) (by decide)
        refine lv_lload_n hx hb dX11_power2_50 rfl (lv_at hl 0 rfl) ?_
        exact u_lret C h hr hQ (⟨(ivl_w iv8_3 (by decide)), t_8, o_8, (by have h_ := hv8_1; rw [sqm_0 (show v8_7.toInt ≤ 0 by omega)] at h_; unfold pinv; rw [h_, show u1.toInt = 1000001 by omega]), (by omega)⟩) (Nat.le_of_ble_eq_true rfl) (Nat.le_of_ble_eq_true rfl) dX11_power2_51
      · have c4 : 0 < v8_7.toInt := Int32.lt_iff_toInt_lt.mp (iv_nle c1)
        have i5 : iv v8_7 1 1000001 := iv_Lr c4 (iv_k (x := 0) (k := 0) rfl) iv8_7 (by decide)
        refine lv_iload hx hb dX11_power2_13 (lv_at hl 2 rfl) ?_
        refine lv_iconst (v := 1) hx hb dX11_power2_15 (by decide) ?_
        refine lv_iand hx hb dX11_power2_16 (i_top (iv_and (k := 1) rfl (by decide)) (fun z6 ez6 iz6 => ?_))
        have mmz6 := and1_m ez6 (by omega)
        refine lv_iconst (v := 1) hx hb dX11_power2_17 (by decide) ?_
        refine lv_icmp_ne (tgt := 30) hx hb dX11_power2_18 (by decide) (fun c7 => ?_) (fun c7 => ?_)
        · have c8 : z6.toInt ≠ 1 := fun z_ => c7 (Int32.toInt_inj.mp z_)
          have i9 : iv z6 0 0 := iv_Nh c8 iz6 (by decide)
          refine lv_lload hx hb dX11_power2_30 (lv_at hl 1 rfl) ?_
          refine lv_lload hx hb dX11_power2_32 (lv_at hl 1 rfl) ?_
          refine lv_lmul hx hb dX11_power2_34 (lv_topl (fun w12 ew12 => ?_))
          obtain ⟨mw12, bw12⟩ := L_mulp (A := 1000002) (B := 1000002) ew12 ⟨by omega, by omega⟩ ⟨by omega, by omega⟩ (by decide)
          refine lv_ldc2 (v := 1000003) hx hb hown (hts _ w_1719) dX11_power2_35 ?_
          refine lv_lrem hx hb dX11_power2_38 (by decide) (i_topl (lrem_iv (k := 1000003) rfl (by decide) (lo := -1000002) (hi := 1000002) (by decide)) (fun w13 ew13 iw13 => ?_))
          have mw13 := L_rem ew13 (by omega)
          refine lv_lstore (lv' := [(5, .long w13), (3, .long v8_3), (7, .int v8_7)]) hx hb dX11_power2_39 hl (by decide) rfl (fun ls hl => ?_)
          refine lv_iload hx hb dX11_power2_41 (lv_at hl 2 rfl) ?_
          refine lv_iconst (v := 1) hx hb dX11_power2_43 (by decide) ?_
          refine lv_ishr hx hb dX11_power2_44 (i_topm (P := fun q_ => q_ = Int32.toInt v8_7 / 2) (iv_shr1 i5 (lo := 0) (hi := 500000) (by decide)) (fun z14 ez14 mz14 iz14 => ?_))
          refine lv_istore (lv' := [(7, .int z14), (5, .long w13), (3, .long v8_3)]) hx hb dX11_power2_45 hl (by decide) rfl (fun ls hl => ?_)
          refine lv_goto (tgt := 8) hx hb dX11_power2_47 (by decide) ?_
          exact ih8 ls f_8 H locs v8_3 w13 z14 (show z14.toInt < _ by omega) (lv_cons hl 2 rfl (lv_cons hl 1 rfl (lv_cons hl 0 rfl (lv_nil hl)))) h t_8 o_8 (ivl_w iv8_3 (by decide)) (iv_w iz14 (by decide)) (show 0 ≤ v8_3.toInt ∧ v8_3.toInt ≤ 1000002 ∧ 0 ≤ w13.toInt ∧ w13.toInt ≤ 1000002 by omega) (show sqm 40 v8_3.toInt w13.toInt z14.toInt = sqm 40 1 u0.toInt u1.toInt from (by rw [← hv8_1, sqm_s (p := v8_3.toInt) (q := v8_5.toInt) (k := v8_7.toInt) (by omega) (by omega), if_neg (by omega), mw13, mw12, mz14]))
        · have c10 : z6.toInt = 1 := congrArg Int32.toInt c7
          have i11 : iv z6 1 1 := iv_Q c10 iz6 (iv_k (x := 1) (k := 1) rfl) (by decide)
          refine lv_lload_n hx hb dX11_power2_21 rfl (lv_at hl 0 rfl) ?_
          refine lv_lload hx hb dX11_power2_22 (lv_at hl 1 rfl) ?_
          refine lv_lmul hx hb dX11_power2_24 (lv_topl (fun w15 ew15 => ?_))
          obtain ⟨mw15, bw15⟩ := L_mulp (A := 1000002) (B := 1000002) ew15 ⟨by omega, by omega⟩ ⟨by omega, by omega⟩ (by decide)
          refine lv_ldc2 (v := 1000003) hx hb hown (hts _ w_1719) dX11_power2_25 ?_
          refine lv_lrem hx hb dX11_power2_28 (by decide) (i_topl (lrem_iv (k := 1000003) rfl (by decide) (lo := -1000002) (hi := 1000002) (by decide)) (fun w16 ew16 iw16 => ?_))
          have mw16 := L_rem ew16 (by omega)
          refine lv_lstore_n (lv' := [(3, .long w16), (5, .long v8_5), (7, .int v8_7)]) hx hb dX11_power2_29 rfl hl (by decide) rfl (fun ls hl => ?_)
          refine lv_lload hx hb dX11_power2_30 (lv_at hl 1 rfl) ?_
          refine lv_lload hx hb dX11_power2_32 (lv_at hl 1 rfl) ?_
          refine lv_lmul hx hb dX11_power2_34 (lv_topl (fun w17 ew17 => ?_))
          obtain ⟨mw17, bw17⟩ := L_mulp (A := 1000002) (B := 1000002) ew17 ⟨by omega, by omega⟩ ⟨by omega, by omega⟩ (by decide)
          refine lv_ldc2 (v := 1000003) hx hb hown (hts _ w_1719) dX11_power2_35 ?_
          refine lv_lrem hx hb dX11_power2_38 (by decide) (i_topl (lrem_iv (k := 1000003) rfl (by decide) (lo := -1000002) (hi := 1000002) (by decide)) (fun w18 ew18 iw18 => ?_))
          have mw18 := L_rem ew18 (by omega)
          refine lv_lstore (lv' := [(5, .long w18), (3, .long w16), (7, .int v8_7)]) hx hb dX11_power2_39 hl (by decide) rfl (fun ls hl => ?_)
          refine lv_iload hx hb dX11_power2_41 (lv_at hl 2 rfl) ?_
          refine lv_iconst (v := 1) hx hb dX11_power2_43 (by decide) ?_
          refine lv_ishr hx hb dX11_power2_44 (i_topm (P := fun q_ => q_ = Int32.toInt v8_7 / 2) (iv_shr1 i5 (lo := 0) (hi := 500000) (by decide)) (fun z19 ez19 mz19 iz19 => ?_))
          refine lv_istore (lv' := [(7, .int z19), (5, .long w18), (3, .long w16)]) hx hb dX11_power2_45 hl (by decide) rfl (fun ls hl => ?_)
          refine lv_goto (tgt := 8) hx hb dX11_power2_47 (by decide) ?_
          exact ih8 ls f_8 H locs w16 w18 z19 (show z19.toInt < _ by omega) (lv_cons hl 2 rfl (lv_cons hl 1 rfl (lv_cons hl 0 rfl (lv_nil hl)))) h t_8 o_8 (ivl_w iw16 (by decide)) (iv_w iz19 (by decide)) (show 0 ≤ w16.toInt ∧ w16.toInt ≤ 1000002 ∧ 0 ≤ w18.toInt ∧ w18.toInt ≤ 1000002 by omega) (show sqm 40 w16.toInt w18.toInt z19.toInt = sqm 40 1 u0.toInt u1.toInt from (by rw [← hv8_1, sqm_s (p := v8_3.toInt) (q := v8_5.toInt) (k := v8_7.toInt) (by omega) (by omega), if_pos (by omega), mw16, mw15, mw18, mw17, mz19]))
  refine lv_lconst (v := 1) hx hb dX11_power2_0 (by decide) ?_
  refine lv_lstore_n (lv' := [(3, .long 1), (0, .long u0), (2, .int u1)]) hx hb dX11_power2_1 rfl hl (by decide) rfl (fun ls hl => ?_)
  refine lv_lload_n hx hb dX11_power2_2 rfl (lv_at hl 1 rfl) ?_
  refine lv_lstore (lv' := [(5, .long u0), (3, .long 1), (0, .long u0), (2, .int u1)]) hx hb dX11_power2_3 hl (by decide) rfl (fun ls hl => ?_)
  refine lv_iload_n hx hb dX11_power2_5 rfl (lv_at hl 3 rfl) ?_
  refine lv_istore (lv' := [(7, .int u1), (5, .long u0), (3, .long 1), (0, .long u0), (2, .int u1)]) hx hb dX11_power2_6 hl (by decide) rfl (fun ls hl => ?_)
  exact L8 1000002 ls f s.heap [] 1 u0 u1 (show u1.toInt < _ by omega) (lv_cons hl 2 rfl (lv_cons hl 1 rfl (lv_cons hl 0 rfl (lv_nil hl)))) h t o (ivl_w (ivl_k (x := 1) (k := 1) rfl) (by decide)) (iv_w hu1 (by decide)) (show 0 ≤ 1 ∧ 1 ≤ 1000002 ∧ 0 ≤ u0.toInt ∧ u0.toInt ≤ 1000002 by omega) (show sqm 40 1 u0.toInt u1.toInt = sqm 40 1 u0.toInt u1.toInt from (by rfl))
abbrev rm_s_X11_inverseX : Room := { frames := 1, cells := 0, slots := 0, locals := 27 }
set_option maxRecDepth 100000 in
set_option maxHeartbeats 4000000 in
theorem s_X11_inverseX (l : Launch) (D : va_G) (G : Nat → Nat) (b0 : Nat) (τ : Nat → Nat) (f : hM) (t : TI G 9 τ f) (u0 : Int64) (hr0 : 0 ≤ u0.toInt ∧ u0.toInt ≤ 1000002) : mL l yX11_inverse cX11_inverse 2 rm_s_X11_inverseX D G b0 f [.long u0] (fun r f1 => ivl r (-1000002) 1000002 ∧ TI G 9 τ f1 ∧ Fr [] τ f f1 ∧ (r.toInt = pinv u0.toInt) ∧ (0 ≤ r.toInt ∧ r.toInt ≤ 1000002)) := by
  refine met2 (own := RX11) (by decide) rfl (Nat.le_of_ble_eq_true rfl) ?_
  intro p e s m args below meth c ls Q hQ C hr hini hl h
  have hl : lv_has ls 2 [(0, .long u0)] := hl
  obtain ⟨hx, hb, hml, hown, hts, hE0, hlk⟩ := id C
  have o := Fr.rf [] τ f
  refine lv_lload_n hx hb dX11_inverse_0 rfl (lv_at hl 0 rfl) ?_
  refine lv_ldcw (v := 1000001) hx hb hown (hts _ w_1803) dX11_inverse_1 ?_
  refine k_l (r_S C h hl (As := [.long u0, .int 1000001]) (rest := []) (s_X11_power2X l D G b0 τ f t u0 1000001 (iv_w (iv_k (x := 1000001) (k := 1000001) rfl) (by decide)) (show 0 ≤ u0.toInt ∧ u0.toInt ≤ 1000002 from (by omega))) mk_X11_power2 w_1804 w_1805 w_1806 ⟨Nat.le_of_ble_eq_true rfl, Nat.le_of_ble_eq_true rfl⟩ rfl (Nat.le_of_ble_eq_true rfl) ⟨Nat.le_of_ble_eq_true rfl, Nat.le_of_ble_eq_true rfl⟩ rfl dX11_inverse_4) h (fun r1 f2 H locs p3 h => ?_)
  have n4 : (1000001 : Int32).toInt = 1000001 := rfl
  obtain ⟨ir1, tf2, ogf2, x0r1, x1r1⟩ := p3
  have x0r1 : r1.toInt = pinv u0.toInt := x0r1
  have x1r1 : 0 ≤ r1.toInt ∧ r1.toInt ≤ 1000002 := x1r1
  have egf2 := Fr.nil2 ogf2
  subst egf2
  exact u_lret C h hr hQ (⟨(ivl_w ir1 (by decide)), t, o, x0r1, (by omega)⟩) (Nat.le_of_ble_eq_true rfl) (Nat.le_of_ble_eq_true rfl) dX11_inverse_7
abbrev rm_s_X11_byX : Room := { frames := 2, cells := 0, slots := 0, locals := 48 }
set_option maxRecDepth 100000 in
set_option maxHeartbeats 4000000 in
theorem s_X11_byX (l : Launch) (D : va_G) (G : Nat → Nat) (b0 : Nat) (τ : Nat → Nat) (f : hM) (t : TI G 9 τ f) (u0 : Int64) (u1 : Int32) (hu1 : iv u1 (-1) 1) (hr0 : 0 ≤ u0.toInt ∧ u0.toInt ≤ 1000002) : mL l yX11_by cX11_by 3 rm_s_X11_byX D G b0 f [.long u0, .int u1] (fun r f1 => TI G 9 τ f1 ∧ Fr [] τ f f1 ∧ (r.toInt = byf u0.toInt u1.toInt) ∧ (0 ≤ r.toInt ∧ r.toInt ≤ 1000002)) := by
  refine met2 (own := RX11) (by decide) rfl (Nat.le_of_ble_eq_true rfl) ?_
  intro p e s m args below meth c ls Q hQ C hr hini hl h
  have hl : lv_has ls 3 [(0, .long u0), (2, .int u1)] := hl
  obtain ⟨hx, hb, hml, hown, hts, hE0, hlk⟩ := id C
  have o := Fr.rf [] τ f
  refine lv_iload_n hx hb dX11_by_0 rfl (lv_at hl 1 rfl) ?_
  refine lv_if_ne (tgt := 8) hx hb dX11_by_1 (by decide) (fun c1 => ?_) (fun c1 => ?_)
  · have c2 : u1.toInt ≠ 0 := fun z_ => c1 (Int32.toInt_inj.mp z_)
    refine lv_iload_n hx hb dX11_by_8 rfl (lv_at hl 1 rfl) ?_
    refine lv_if_le (tgt := 16) hx hb dX11_by_9 (by decide) (fun c5 => ?_) (fun c5 => ?_)
    · have c6 : u1.toInt ≤ 0 := Int32.le_iff_toInt_le.mp c5
      have i7 : iv u1 (-1) 0 := iv_El c6 hu1 (iv_k (x := 0) (k := 0) rfl) (by decide)
      refine lv_lload_n hx hb dX11_by_16 rfl (lv_at hl 0 rfl) ?_
      refine k_l (r_S C h hl (As := [.long u0]) (rest := []) (s_X11_inverseX l D G b0 τ f t u0 (by omega)) mk_X11_inverse w_1800 w_1801 w_1802 ⟨Nat.le_of_ble_eq_true rfl, Nat.le_of_ble_eq_true rfl⟩ rfl (Nat.le_of_ble_eq_true rfl) ⟨Nat.le_of_ble_eq_true rfl, Nat.le_of_ble_eq_true rfl⟩ rfl dX11_by_17) h (fun r10 f11 H locs p12 h => ?_)
      obtain ⟨ir10, tf11, ogf11, x0r10, x1r10⟩ := p12
      have egf11 := Fr.nil2 ogf11
      subst egf11
      exact u_lret C h hr hQ (⟨t, o, (by unfold byf; rw [if_neg (by omega), if_neg (by omega)]; exact x0r10), (by have n1_ : (1 : Int64).toInt = 1 := rfl; omega)⟩) (Nat.le_of_ble_eq_true rfl) (Nat.le_of_ble_eq_true rfl) dX11_by_20
    · have c8 : 0 < u1.toInt := Int32.lt_iff_toInt_lt.mp (iv_nle c5)
      have i9 : iv u1 1 1 := iv_Lr c8 (iv_k (x := 0) (k := 0) rfl) hu1 (by decide)
      refine lv_lload_n hx hb dX11_by_12 rfl (lv_at hl 0 rfl) ?_
      refine lv_goto (tgt := 20) hx hb dX11_by_13 (by decide) ?_
      exact u_lret C h hr hQ (⟨t, o, (by unfold byf; rw [if_neg (by omega), if_pos (by omega)]), (by have n1_ : (1 : Int64).toInt = 1 := rfl; omega)⟩) (Nat.le_of_ble_eq_true rfl) (Nat.le_of_ble_eq_true rfl) dX11_by_20
  · have c3 : u1.toInt = 0 := congrArg Int32.toInt c1
    have i4 : iv u1 0 0 := iv_Q c3 hu1 (iv_k (x := 0) (k := 0) rfl) (by decide)
    refine lv_lconst (v := 1) hx hb dX11_by_4 (by decide) ?_
    refine lv_goto (tgt := 20) hx hb dX11_by_5 (by decide) ?_
    exact u_lret C h hr hQ (⟨t, o, (by show (1 : Int) = _; unfold byf; rw [if_pos (by omega)]), (by have n1_ : (1 : Int64).toInt = 1 := rfl; omega)⟩) (Nat.le_of_ble_eq_true rfl) (Nat.le_of_ble_eq_true rfl) dX11_by_20
abbrev rm_s_X11_partX : Room := { frames := 3, cells := 0, slots := 0, locals := 70 }
set_option maxRecDepth 100000 in
set_option maxHeartbeats 4000000 in
theorem s_X11_partX (l : Launch) (D : va_G) (G : Nat → Nat) (b0 : Nat) (τ : Nat → Nat) (f : hM) (t : TI G 9 τ f) (u0 : Nat) (hu0 : τ u0 = 60) (u1 : Int32) (hu1 : iv u1 0 7) (u2 : Int32) (hu2 : iv u2 0 1) (u3 : Int32) (hu3 : iv u3 (-1) 1) (u4 : Int64) (bq : Nat) (hbq : τ bq = 63) (k_u0_6 : atp f u0 (fd 6 (.ref bq))) (rb : Nat → Int32) (hRbq : atp f bq (eqc (.inl (G 1, 81, .inl rb)))) (hr0 : 0 ≤ u4.toInt ∧ u4.toInt ≤ 1000002) : mL l yX11_part cX11_part 10 rm_s_X11_partX D G b0 f [.ref u0, .int u1, .int u2, .int u3, .long u4] (fun r f1 => ivl r (-1000002) 1000002 ∧ TI G 9 τ f1 ∧ Fr [] τ f f1 ∧ (r.toInt = ptf (fun k : Int => (rb (10 * u1.toInt + k).toNat).toInt) u2.toInt u3.toInt u4.toInt 8 % 1000003) ∧ (0 ≤ r.toInt ∧ r.toInt ≤ 1000002)) := by
  refine met2 (own := RX11) (by decide) rfl (Nat.le_of_ble_eq_true rfl) ?_
  intro p e s m args below meth c ls Q hQ C hr hini hl h
  have hl : lv_has ls 10 [(0, .ref u0), (1, .int u1), (2, .int u2), (3, .int u3), (4, .long u4)] := hl
  obtain ⟨hx, hb, hml, hown, hts, hE0, hlk⟩ := id C
  have o := Fr.rf [] τ f
  have L6 : ∀ (n6 : Nat) (ls : Array Slot) (f_6 : hM) (H : Heap) (locs : List Loc) (v6_6 : Int64) (v6_8 : Int32), 8 - v6_8.toInt < (n6 : Int) → lv_has ls 10 [(0, .ref u0), (1, .int u1), (2, .int u2), (3, .int u3), (4, .long u4), (6, .long v6_6), (8, .int v6_8)] → hw D b0 s.heap f_6 H locs → TI G 9 τ f_6 → Fr [] τ f f_6 → iv v6_8 0 8 → atp f_6 u0 (fd 6 (.ref bq)) → atp f_6 bq (eqc (.inl (G 1, 81, .inl rb))) → 0 ≤ v6_6.toInt ∧ v6_6.toInt ≤ 1000002 * v6_8.toInt → (v6_6.toInt = ptf (fun k : Int => (rb (10 * u1.toInt + k).toNat).toInt) u2.toInt u3.toInt u4.toInt (Int.toNat v6_8.toInt)) → W p l e rm_s_X11_partX s m args below meth c H locs 0 0 Q (F0 m 6 ls []) := by
    intro n6
    induction n6 with
    | zero => intro ls f_6 H locs v6_6 v6_8 hm6 hl h t_6 o_6 iv6_8 k6_u0_6 k6_bq_R hv6_0 hv6_1; exact absurd hm6 (by omega)
    | succ n6 ih6 =>
      intro ls f_6 H locs v6_6 v6_8 hm6 hl h t_6 o_6 iv6_8 k6_u0_6 k6_bq_R hv6_0 hv6_1
      refine lv_iload hx hb dX11_part_6 (lv_at hl 6 rfl) ?_
      refine lv_bipush (v := 8) hx hb dX11_part_8 (by decide) ?_
      refine lv_icmp_ge (tgt := 92) hx hb dX11_part_10 (by decide) (fun c1 => ?_) (fun c1 => ?_)
      · have c2 : 8 ≤ v6_8.toInt := Int32.le_iff_toInt_le.mp c1
        have i3 : iv v6_8 8 8 := iv_Er c2 (iv_k (x := 8) (k := 8) rfl) iv6_8 (by decide)
        refine lv_lload hx hb dX11_part_92 (lv_at hl 5 rfl) ?_
        refine lv_ldc2 (v := 1000003) hx hb hown (hts _ w_1719) dX11_part_94 ?_
        refine lv_lrem hx hb dX11_part_97 (by decide) (i_topl (lrem_iv (k := 1000003) rfl (by decide) (lo := -1000002) (hi := 1000002) (by decide)) (fun w6 ew6 iw6 => ?_))
        have mw6 := L_rem ew6 (by omega)
        exact u_lret C h hr hQ (⟨(ivl_w iw6 (by decide)), t_6, o_6, (by rw [mw6, hv6_1, show v6_8.toInt.toNat = 8 by omega]), (by omega)⟩) (Nat.le_of_ble_eq_true rfl) (Nat.le_of_ble_eq_true rfl) dX11_part_98
      · have c4 : v6_8.toInt < 8 := Int32.lt_iff_toInt_lt.mp (iv_nle c1)
        have i5 : iv v6_8 0 7 := iv_Ll c4 iv6_8 (iv_k (x := 8) (k := 8) rfl) (by decide)
        refine lv_iload_n hx hb dX11_part_13 rfl (lv_at hl 2 rfl) ?_
        refine lv_if_ne (tgt := 25) hx hb dX11_part_14 (by decide) (fun c7 => ?_) (fun c7 => ?_)
        · have c8 : u2.toInt ≠ 0 := fun z_ => c7 (Int32.toInt_inj.mp z_)
          have i9 : iv u2 1 1 := iv_Nl c8 hu2 (by decide)
          refine lv_iload hx hb dX11_part_25 (lv_at hl 6 rfl) ?_
          refine k_i (r_S C h hl (As := [.int v6_8]) (rest := []) (s_X11_dyX l D G b0 τ f_6 t_6 v6_8 i5) mk_X11_dy w_1678 w_1679 w_1680 ⟨Nat.le_of_ble_eq_true rfl, Nat.le_of_ble_eq_true rfl⟩ rfl (Nat.le_of_ble_eq_true rfl) ⟨Nat.le_of_ble_eq_true rfl, Nat.le_of_ble_eq_true rfl⟩ rfl dX11_part_27) h (fun r12 f13 H locs p14 h => ?_)
          obtain ⟨ir12, tf13, ogf13, x0r12⟩ := p14
          have egf13 := Fr.nil2 ogf13
          subst egf13
          refine lv_iload_n hx hb dX11_part_30 rfl (lv_at hl 3 rfl) ?_
          refine lv_icmp_ne (tgt := 38) hx hb dX11_part_31 (by decide) (fun c15 => ?_) (fun c15 => ?_)
          · have c16 : r12.toInt ≠ u3.toInt := fun z_ => c15 (Int32.toInt_inj.mp z_)
            refine lv_iconst (v := 0) hx hb dX11_part_38 (by decide) ?_
            refine lv_istore (lv' := [(9, .int 0), (0, .ref u0), (1, .int u1), (2, .int u2), (3, .int u3), (4, .long u4), (6, .long v6_6), (8, .int v6_8)]) hx hb dX11_part_39 hl (by decide) rfl (fun ls hl => ?_)
            refine lv_iload hx hb dX11_part_41 (lv_at hl 0 rfl) ?_
            refine lv_if_eq (tgt := 86) hx hb dX11_part_43 (by decide) (fun c18 => ?_) (fun c18 => ?_)
            · refine i_inc hx hb dX11_part_86 hl (k := 7) rfl i5 rfl (lo := 1) (hi := 8) (by decide) (by decide) (lv' := fun v => [(8, .int v), (9, .int 0), (0, .ref u0), (1, .int u1), (2, .int u2), (3, .int u3), (4, .long u4), (6, .long v6_6)]) (fun _ => rfl) (fun z21 ls ez21 mz21 iz21 hl => ?_)
              refine lv_goto (tgt := 6) hx hb dX11_part_89 (by decide) ?_
              exact ih6 ls f_6 H locs v6_6 z21 (show 8 - z21.toInt < _ by omega) (lv_cons hl 2 rfl (lv_cons hl 3 rfl (lv_cons hl 4 rfl (lv_cons hl 5 rfl (lv_cons hl 6 rfl (lv_cons hl 7 rfl (lv_cons hl 0 rfl (lv_nil hl)))))))) h t_6 o_6 (iv_w iz21 (by decide)) k6_u0_6 k6_bq_R (show 0 ≤ v6_6.toInt ∧ v6_6.toInt ≤ 1000002 * z21.toInt by omega) (show v6_6.toInt = ptf (fun k : Int => (rb (10 * u1.toInt + k).toNat).toInt) u2.toInt u3.toInt u4.toInt (Int.toNat z21.toInt) from (by rw [ptf_s (i := v6_8.toInt) (by omega) (by omega), if_neg (by split <;> omega)]; exact hv6_1))
            · exact absurd c18 (by decide)
          · have c17 : r12.toInt = u3.toInt := congrArg Int32.toInt c15
            refine lv_iconst (v := 1) hx hb dX11_part_34 (by decide) ?_
            refine lv_goto (tgt := 39) hx hb dX11_part_35 (by decide) ?_
            refine lv_istore (lv' := [(9, .int 1), (0, .ref u0), (1, .int u1), (2, .int u2), (3, .int u3), (4, .long u4), (6, .long v6_6), (8, .int v6_8)]) hx hb dX11_part_39 hl (by decide) rfl (fun ls hl => ?_)
            refine lv_iload hx hb dX11_part_41 (lv_at hl 0 rfl) ?_
            refine lv_if_eq (tgt := 86) hx hb dX11_part_43 (by decide) (fun c22 => ?_) (fun c22 => ?_)
            · exact absurd c22 (by decide)
            · refine lv_lload hx hb dX11_part_46 (lv_at hl 6 rfl) ?_
              refine lv_aload_n hx hb dX11_part_48 rfl (lv_at hl 1 rfl) ?_
              refine lv_iload_n hx hb dX11_part_49 rfl (lv_at hl 2 rfl) ?_
              refine lv_iload hx hb dX11_part_50 (lv_at hl 7 rfl) ?_
              obtain ⟨_, r25⟩ := t_rec t_6 hu0 (by decide) wf_60
              refine k_i (r_V C h hl (As := [.int u1, .int v6_8]) (rest := [.long v6_6]) (s_X11_weightOfX l D G b0 τ f_6 t_6 u0 hu0 u1 hu1 v6_8 (iv_w i5 (by decide)) bq hbq k6_u0_6 rb k6_bq_R) r25 (Cn := RX11) (T := TX11) (N := 32) rfl rfl mk_X11_weightOf w_1631 w_1633 w_52 w_1634 ⟨Nat.le_of_ble_eq_true rfl, Nat.le_of_ble_eq_true rfl⟩ rfl (Nat.le_of_ble_eq_true rfl) ⟨Nat.le_of_ble_eq_true rfl, Nat.le_of_ble_eq_true rfl⟩ rfl dX11_part_52) h (fun r26 f27 H locs p28 h => ?_)
              obtain ⟨ir26, tf27, ogf27, x0r26, x1r26⟩ := p28
              have egf27 := Fr.nil2 ogf27
              subst egf27
              refine lv_i2l hx hb dX11_part_55 rfl (i_topL ir26 (fun w29 ew29 mw29 iw29 => ?_))
              refine lv_lload hx hb dX11_part_56 (lv_at hl 5 rfl) ?_
              refine lv_iload_n hx hb dX11_part_58 rfl (lv_at hl 3 rfl) ?_
              refine lv_if_ne (tgt := 70) hx hb dX11_part_59 (by decide) (fun c30 => ?_) (fun c30 => ?_)
              · have c31 : u2.toInt ≠ 0 := fun z_ => c30 (Int32.toInt_inj.mp z_)
                refine lv_iload hx hb dX11_part_70 (lv_at hl 7 rfl) ?_
                refine k_i (r_S C h hl (As := [.int v6_8]) (rest := [.long u4, .long w29, .long v6_6]) (s_X11_dxX l D G b0 τ f_6 t_6 v6_8 i5) mk_X11_dx w_1675 w_1676 w_1677 ⟨Nat.le_of_ble_eq_true rfl, Nat.le_of_ble_eq_true rfl⟩ rfl (Nat.le_of_ble_eq_true rfl) ⟨Nat.le_of_ble_eq_true rfl, Nat.le_of_ble_eq_true rfl⟩ rfl dX11_part_72) h (fun r33 f34 H locs p35 h => ?_)
                obtain ⟨ir33, tf34, ogf34, x0r33⟩ := p35
                have egf34 := Fr.nil2 ogf34
                subst egf34
                refine k_l (r_S C h hl (As := [.long u4, .int r33]) (rest := [.long w29, .long v6_6]) (s_X11_byX l D G b0 τ f_6 t_6 u4 r33 ir33 (by omega)) mk_X11_by w_1872 w_1873 w_1874 ⟨Nat.le_of_ble_eq_true rfl, Nat.le_of_ble_eq_true rfl⟩ rfl (Nat.le_of_ble_eq_true rfl) ⟨Nat.le_of_ble_eq_true rfl, Nat.le_of_ble_eq_true rfl⟩ rfl dX11_part_75) h (fun r36 f37 H locs p38 h => ?_)
                obtain ⟨tf37, ogf37, x0r36, x1r36⟩ := p38
                have egf37 := Fr.nil2 ogf37
                subst egf37
                refine lv_lmul hx hb dX11_part_78 (lv_topl (fun w39 ew39 => ?_))
                obtain ⟨mw39, bw39⟩ := L_mulp (A := 9) (B := 1000002) ew39 ⟨by omega, by omega⟩ ⟨by omega, by omega⟩ (by decide)
                rw [mw29] at mw39
                refine lv_ldc2 (v := 1000003) hx hb hown (hts _ w_1719) dX11_part_79 ?_
                refine lv_lrem hx hb dX11_part_82 (by decide) (i_topl (lrem_iv (k := 1000003) rfl (by decide) (lo := -1000002) (hi := 1000002) (by decide)) (fun w40 ew40 iw40 => ?_))
                have mw40 := L_rem ew40 (by omega)
                refine lv_ladd hx hb dX11_part_83 (lv_topl (fun w41 ew41 => ?_))
                have mw41 := L_add ew41 (by omega)
                refine lv_lstore (lv' := [(6, .long w41), (9, .int 1), (0, .ref u0), (1, .int u1), (2, .int u2), (3, .int u3), (4, .long u4), (8, .int v6_8)]) hx hb dX11_part_84 hl (by decide) rfl (fun ls hl => ?_)
                refine i_inc hx hb dX11_part_86 hl (k := 7) rfl i5 rfl (lo := 1) (hi := 8) (by decide) (by decide) (lv' := fun v => [(8, .int v), (6, .long w41), (9, .int 1), (0, .ref u0), (1, .int u1), (2, .int u2), (3, .int u3), (4, .long u4)]) (fun _ => rfl) (fun z42 ls ez42 mz42 iz42 hl => ?_)
                refine lv_goto (tgt := 6) hx hb dX11_part_89 (by decide) ?_
                exact ih6 ls f_6 H locs w41 z42 (show 8 - z42.toInt < _ by omega) (lv_cons hl 3 rfl (lv_cons hl 4 rfl (lv_cons hl 5 rfl (lv_cons hl 6 rfl (lv_cons hl 7 rfl (lv_cons hl 1 rfl (lv_cons hl 0 rfl (lv_nil hl)))))))) h t_6 o_6 (iv_w iz42 (by decide)) k6_u0_6 k6_bq_R (show 0 ≤ w41.toInt ∧ w41.toInt ≤ 1000002 * z42.toInt by omega) (show w41.toInt = ptf (fun k : Int => (rb (10 * u1.toInt + k).toNat).toInt) u2.toInt u3.toInt u4.toInt (Int.toNat z42.toInt) from (by
                    have hz_ : r33.toInt = (if u2.toInt = 0 then ddy v6_8.toInt else ddx v6_8.toInt) := by (split <;> omega)
                    rw [ptf_s (i := v6_8.toInt) (by omega) (by omega), if_pos (by split <;> omega), mw41, mw40, mw39, ← hv6_1, x0r36, x1r26, hz_]))
              · have c32 : u2.toInt = 0 := congrArg Int32.toInt c30
                exact (iv_cq_ c32 i9 (iv_k (x := 0) (k := 0) rfl) (by decide)).elim
        · have c10 : u2.toInt = 0 := congrArg Int32.toInt c7
          have i11 : iv u2 0 0 := iv_Q c10 hu2 (iv_k (x := 0) (k := 0) rfl) (by decide)
          refine lv_iload hx hb dX11_part_17 (lv_at hl 6 rfl) ?_
          refine k_i (r_S C h hl (As := [.int v6_8]) (rest := []) (s_X11_dxX l D G b0 τ f_6 t_6 v6_8 i5) mk_X11_dx w_1675 w_1676 w_1677 ⟨Nat.le_of_ble_eq_true rfl, Nat.le_of_ble_eq_true rfl⟩ rfl (Nat.le_of_ble_eq_true rfl) ⟨Nat.le_of_ble_eq_true rfl, Nat.le_of_ble_eq_true rfl⟩ rfl dX11_part_19) h (fun r43 f44 H locs p45 h => ?_)
          obtain ⟨ir43, tf44, ogf44, x0r43⟩ := p45
          have egf44 := Fr.nil2 ogf44
          subst egf44
          refine lv_goto (tgt := 30) hx hb dX11_part_22 (by decide) ?_
          refine lv_iload_n hx hb dX11_part_30 rfl (lv_at hl 3 rfl) ?_
          refine lv_icmp_ne (tgt := 38) hx hb dX11_part_31 (by decide) (fun c46 => ?_) (fun c46 => ?_)
          · have c47 : r43.toInt ≠ u3.toInt := fun z_ => c46 (Int32.toInt_inj.mp z_)
            refine lv_iconst (v := 0) hx hb dX11_part_38 (by decide) ?_
            refine lv_istore (lv' := [(9, .int 0), (0, .ref u0), (1, .int u1), (2, .int u2), (3, .int u3), (4, .long u4), (6, .long v6_6), (8, .int v6_8)]) hx hb dX11_part_39 hl (by decide) rfl (fun ls hl => ?_)
            refine lv_iload hx hb dX11_part_41 (lv_at hl 0 rfl) ?_
            refine lv_if_eq (tgt := 86) hx hb dX11_part_43 (by decide) (fun c49 => ?_) (fun c49 => ?_)
            · refine i_inc hx hb dX11_part_86 hl (k := 7) rfl i5 rfl (lo := 1) (hi := 8) (by decide) (by decide) (lv' := fun v => [(8, .int v), (9, .int 0), (0, .ref u0), (1, .int u1), (2, .int u2), (3, .int u3), (4, .long u4), (6, .long v6_6)]) (fun _ => rfl) (fun z52 ls ez52 mz52 iz52 hl => ?_)
              refine lv_goto (tgt := 6) hx hb dX11_part_89 (by decide) ?_
              exact ih6 ls f_6 H locs v6_6 z52 (show 8 - z52.toInt < _ by omega) (lv_cons hl 2 rfl (lv_cons hl 3 rfl (lv_cons hl 4 rfl (lv_cons hl 5 rfl (lv_cons hl 6 rfl (lv_cons hl 7 rfl (lv_cons hl 0 rfl (lv_nil hl)))))))) h t_6 o_6 (iv_w iz52 (by decide)) k6_u0_6 k6_bq_R (show 0 ≤ v6_6.toInt ∧ v6_6.toInt ≤ 1000002 * z52.toInt by omega) (show v6_6.toInt = ptf (fun k : Int => (rb (10 * u1.toInt + k).toNat).toInt) u2.toInt u3.toInt u4.toInt (Int.toNat z52.toInt) from (by rw [ptf_s (i := v6_8.toInt) (by omega) (by omega), if_neg (by split <;> omega)]; exact hv6_1))
            · exact absurd c49 (by decide)
          · have c48 : r43.toInt = u3.toInt := congrArg Int32.toInt c46
            refine lv_iconst (v := 1) hx hb dX11_part_34 (by decide) ?_
            refine lv_goto (tgt := 39) hx hb dX11_part_35 (by decide) ?_
            refine lv_istore (lv' := [(9, .int 1), (0, .ref u0), (1, .int u1), (2, .int u2), (3, .int u3), (4, .long u4), (6, .long v6_6), (8, .int v6_8)]) hx hb dX11_part_39 hl (by decide) rfl (fun ls hl => ?_)
            refine lv_iload hx hb dX11_part_41 (lv_at hl 0 rfl) ?_
            refine lv_if_eq (tgt := 86) hx hb dX11_part_43 (by decide) (fun c53 => ?_) (fun c53 => ?_)
            · exact absurd c53 (by decide)
            · refine lv_lload hx hb dX11_part_46 (lv_at hl 6 rfl) ?_
              refine lv_aload_n hx hb dX11_part_48 rfl (lv_at hl 1 rfl) ?_
              refine lv_iload_n hx hb dX11_part_49 rfl (lv_at hl 2 rfl) ?_
              refine lv_iload hx hb dX11_part_50 (lv_at hl 7 rfl) ?_
              obtain ⟨_, r56⟩ := t_rec t_6 hu0 (by decide) wf_60
              refine k_i (r_V C h hl (As := [.int u1, .int v6_8]) (rest := [.long v6_6]) (s_X11_weightOfX l D G b0 τ f_6 t_6 u0 hu0 u1 hu1 v6_8 (iv_w i5 (by decide)) bq hbq k6_u0_6 rb k6_bq_R) r56 (Cn := RX11) (T := TX11) (N := 32) rfl rfl mk_X11_weightOf w_1631 w_1633 w_52 w_1634 ⟨Nat.le_of_ble_eq_true rfl, Nat.le_of_ble_eq_true rfl⟩ rfl (Nat.le_of_ble_eq_true rfl) ⟨Nat.le_of_ble_eq_true rfl, Nat.le_of_ble_eq_true rfl⟩ rfl dX11_part_52) h (fun r57 f58 H locs p59 h => ?_)
              obtain ⟨ir57, tf58, ogf58, x0r57, x1r57⟩ := p59
              have egf58 := Fr.nil2 ogf58
              subst egf58
              refine lv_i2l hx hb dX11_part_55 rfl (i_topL ir57 (fun w60 ew60 mw60 iw60 => ?_))
              refine lv_lload hx hb dX11_part_56 (lv_at hl 5 rfl) ?_
              refine lv_iload_n hx hb dX11_part_58 rfl (lv_at hl 3 rfl) ?_
              refine lv_if_ne (tgt := 70) hx hb dX11_part_59 (by decide) (fun c61 => ?_) (fun c61 => ?_)
              · have c62 : u2.toInt ≠ 0 := fun z_ => c61 (Int32.toInt_inj.mp z_)
                exact (iv_cn_ c62 i11 (iv_k (x := 0) (k := 0) rfl) (by decide)).elim
              · have c63 : u2.toInt = 0 := congrArg Int32.toInt c61
                refine lv_iload hx hb dX11_part_62 (lv_at hl 7 rfl) ?_
                refine k_i (r_S C h hl (As := [.int v6_8]) (rest := [.long u4, .long w60, .long v6_6]) (s_X11_dyX l D G b0 τ f_6 t_6 v6_8 i5) mk_X11_dy w_1678 w_1679 w_1680 ⟨Nat.le_of_ble_eq_true rfl, Nat.le_of_ble_eq_true rfl⟩ rfl (Nat.le_of_ble_eq_true rfl) ⟨Nat.le_of_ble_eq_true rfl, Nat.le_of_ble_eq_true rfl⟩ rfl dX11_part_64) h (fun r64 f65 H locs p66 h => ?_)
                obtain ⟨ir64, tf65, ogf65, x0r64⟩ := p66
                have egf65 := Fr.nil2 ogf65
                subst egf65
                refine lv_goto (tgt := 75) hx hb dX11_part_67 (by decide) ?_
                refine k_l (r_S C h hl (As := [.long u4, .int r64]) (rest := [.long w60, .long v6_6]) (s_X11_byX l D G b0 τ f_6 t_6 u4 r64 ir64 (by omega)) mk_X11_by w_1872 w_1873 w_1874 ⟨Nat.le_of_ble_eq_true rfl, Nat.le_of_ble_eq_true rfl⟩ rfl (Nat.le_of_ble_eq_true rfl) ⟨Nat.le_of_ble_eq_true rfl, Nat.le_of_ble_eq_true rfl⟩ rfl dX11_part_75) h (fun r67 f68 H locs p69 h => ?_)
                obtain ⟨tf68, ogf68, x0r67, x1r67⟩ := p69
                have egf68 := Fr.nil2 ogf68
                subst egf68
                refine lv_lmul hx hb dX11_part_78 (lv_topl (fun w70 ew70 => ?_))
                obtain ⟨mw70, bw70⟩ := L_mulp (A := 9) (B := 1000002) ew70 ⟨by omega, by omega⟩ ⟨by omega, by omega⟩ (by decide)
                rw [mw60] at mw70
                refine lv_ldc2 (v := 1000003) hx hb hown (hts _ w_1719) dX11_part_79 ?_
                refine lv_lrem hx hb dX11_part_82 (by decide) (i_topl (lrem_iv (k := 1000003) rfl (by decide) (lo := -1000002) (hi := 1000002) (by decide)) (fun w71 ew71 iw71 => ?_))
                have mw71 := L_rem ew71 (by omega)
                refine lv_ladd hx hb dX11_part_83 (lv_topl (fun w72 ew72 => ?_))
                have mw72 := L_add ew72 (by omega)
                refine lv_lstore (lv' := [(6, .long w72), (9, .int 1), (0, .ref u0), (1, .int u1), (2, .int u2), (3, .int u3), (4, .long u4), (8, .int v6_8)]) hx hb dX11_part_84 hl (by decide) rfl (fun ls hl => ?_)
                refine i_inc hx hb dX11_part_86 hl (k := 7) rfl i5 rfl (lo := 1) (hi := 8) (by decide) (by decide) (lv' := fun v => [(8, .int v), (6, .long w72), (9, .int 1), (0, .ref u0), (1, .int u1), (2, .int u2), (3, .int u3), (4, .long u4)]) (fun _ => rfl) (fun z73 ls ez73 mz73 iz73 hl => ?_)
                refine lv_goto (tgt := 6) hx hb dX11_part_89 (by decide) ?_
                exact ih6 ls f_6 H locs w72 z73 (show 8 - z73.toInt < _ by omega) (lv_cons hl 3 rfl (lv_cons hl 4 rfl (lv_cons hl 5 rfl (lv_cons hl 6 rfl (lv_cons hl 7 rfl (lv_cons hl 1 rfl (lv_cons hl 0 rfl (lv_nil hl)))))))) h t_6 o_6 (iv_w iz73 (by decide)) k6_u0_6 k6_bq_R (show 0 ≤ w72.toInt ∧ w72.toInt ≤ 1000002 * z73.toInt by omega) (show w72.toInt = ptf (fun k : Int => (rb (10 * u1.toInt + k).toNat).toInt) u2.toInt u3.toInt u4.toInt (Int.toNat z73.toInt) from (by
                    have hz_ : r64.toInt = (if u2.toInt = 0 then ddy v6_8.toInt else ddx v6_8.toInt) := by (split <;> omega)
                    rw [ptf_s (i := v6_8.toInt) (by omega) (by omega), if_pos (by split <;> omega), mw72, mw71, mw70, ← hv6_1, x0r67, x1r57, hz_]))
  refine lv_lconst (v := 0) hx hb dX11_part_0 (by decide) ?_
  refine lv_lstore (lv' := [(6, .long 0), (0, .ref u0), (1, .int u1), (2, .int u2), (3, .int u3), (4, .long u4)]) hx hb dX11_part_1 hl (by decide) rfl (fun ls hl => ?_)
  refine lv_iconst (v := 0) hx hb dX11_part_3 (by decide) ?_
  refine lv_istore (lv' := [(8, .int 0), (6, .long 0), (0, .ref u0), (1, .int u1), (2, .int u2), (3, .int u3), (4, .long u4)]) hx hb dX11_part_4 hl (by decide) rfl (fun ls hl => ?_)
  exact L6 9 ls f s.heap [] 0 0 (by decide) (lv_cons hl 2 rfl (lv_cons hl 3 rfl (lv_cons hl 4 rfl (lv_cons hl 5 rfl (lv_cons hl 6 rfl (lv_cons hl 1 rfl (lv_cons hl 0 rfl (lv_nil hl)))))))) h t o ⟨by decide, by decide⟩ k_u0_6 hRbq (show 0 ≤ 0 ∧ 0 ≤ 1000002 * 0 by omega) (show 0 = ptf (fun k : Int => (rb (10 * u1.toInt + k).toNat).toInt) u2.toInt u3.toInt u4.toInt (Int.toNat 0) from (by rfl))
abbrev rm_s_X11_turnsX : Room := { frames := 4, cells := 0, slots := 0, locals := 99 }
set_option maxRecDepth 100000 in
set_option maxHeartbeats 4000000 in
theorem s_X11_turnsX (l : Launch) (D : va_G) (G : Nat → Nat) (b0 : Nat) (τ : Nat → Nat) (f : hM) (t : TI G 9 τ f) (u0 : Nat) (hu0 : τ u0 = 60) (u1 : Int32) (hu1 : iv u1 0 7) (u2 : Int32) (hu2 : iv u2 0 1000002) (u3 : Int32) (hu3 : iv u3 0 1000002) (u4 : Int32) (hu4 : iv u4 0 1) (bq : Nat) (hbq : τ bq = 63) (k_u0_6 : atp f u0 (fd 6 (.ref bq))) (rb : Nat → Int32) (hRbq : atp f bq (eqc (.inl (G 1, 81, .inl rb)))) : mI l yX11_turns cX11_turns 11 (.int) rm_s_X11_turnsX D G b0 f [.ref u0, .int u1, .int u2, .int u3, .int u4] (fun r f1 => iv r (-1) 1000002 ∧ TI G 9 τ f1 ∧ Fr [] τ f f1 ∧ (r.toInt = tw_ (fun k : Int => (rb (10 * u1.toInt + k).toNat).toInt) u2.toInt u3.toInt u4.toInt)) := by
  refine met2 (own := RX11) (by decide) rfl (Nat.le_of_ble_eq_true rfl) ?_
  intro p e s m args below meth c ls Q hQ C hr hini hl h
  have hl : lv_has ls 11 [(0, .ref u0), (1, .int u1), (2, .int u2), (3, .int u3), (4, .int u4)] := hl
  obtain ⟨hx, hb, hml, hown, hts, hE0, hlk⟩ := id C
  have o := Fr.rf [] τ f
  refine lv_iload hx hb dX11_turns_0 (lv_at hl 4 rfl) ?_
  refine lv_if_ne (tgt := 10) hx hb dX11_turns_2 (by decide) (fun c1 => ?_) (fun c1 => ?_)
  · have c2 : u4.toInt ≠ 0 := fun z_ => c1 (Int32.toInt_inj.mp z_)
    have i3 : iv u4 1 1 := iv_Nl c2 hu4 (by decide)
    refine lv_iload_n hx hb dX11_turns_10 rfl (lv_at hl 2 rfl) ?_
    refine lv_i2l hx hb dX11_turns_11 rfl (i_topL hu2 (fun w6 ew6 mw6 iw6 => ?_))
    refine lv_lstore (lv' := [(5, .long w6), (0, .ref u0), (1, .int u1), (2, .int u2), (3, .int u3), (4, .int u4)]) hx hb dX11_turns_12 hl (by decide) rfl (fun ls hl => ?_)
    refine lv_aload_n hx hb dX11_turns_14 rfl (lv_at hl 1 rfl) ?_
    refine lv_iload_n hx hb dX11_turns_15 rfl (lv_at hl 2 rfl) ?_
    refine lv_iload hx hb dX11_turns_16 (lv_at hl 5 rfl) ?_
    refine lv_iconst (v := 1) hx hb dX11_turns_18 (by decide) ?_
    refine lv_lload hx hb dX11_turns_19 (lv_at hl 0 rfl) ?_
    obtain ⟨_, r7⟩ := t_rec t hu0 (by decide) wf_60
    refine k_l (r_V C h hl (As := [.int u1, .int u4, .int 1, .long w6]) (rest := []) (s_X11_partX l D G b0 τ f t u0 hu0 u1 hu1 u4 (iv_w i3 (by decide)) 1 (iv_w (iv_k (x := 1) (k := 1) rfl) (by decide)) w6 bq hbq k_u0_6 rb hRbq (show 0 ≤ w6.toInt ∧ w6.toInt ≤ 1000002 from (by omega))) r7 (Cn := RX11) (T := TX11) (N := 32) rfl rfl mk_X11_part w_1883 w_1885 w_72 w_1886 ⟨Nat.le_of_ble_eq_true rfl, Nat.le_of_ble_eq_true rfl⟩ rfl (Nat.le_of_ble_eq_true rfl) ⟨Nat.le_of_ble_eq_true rfl, Nat.le_of_ble_eq_true rfl⟩ rfl dX11_turns_21) h (fun r8 f9 H locs p10 h => ?_)
    have n11 : (1 : Int32).toInt = 1 := rfl
    obtain ⟨ir8, tf9, ogf9, x0r8, x1r8⟩ := p10
    have x0r8 : r8.toInt = ptf (fun k : Int => (rb (10 * u1.toInt + k).toNat).toInt) u4.toInt 1 w6.toInt 8 % 1000003 := x0r8
    have x1r8 : 0 ≤ r8.toInt ∧ r8.toInt ≤ 1000002 := x1r8
    have egf9 := Fr.nil2 ogf9
    subst egf9
    refine lv_lstore (lv' := [(7, .long r8), (5, .long w6), (0, .ref u0), (1, .int u1), (2, .int u2), (3, .int u3), (4, .int u4)]) hx hb dX11_turns_24 hl (by decide) rfl (fun ls hl => ?_)
    refine lv_aload_n hx hb dX11_turns_26 rfl (lv_at hl 2 rfl) ?_
    refine lv_iload_n hx hb dX11_turns_27 rfl (lv_at hl 3 rfl) ?_
    refine lv_iload hx hb dX11_turns_28 (lv_at hl 6 rfl) ?_
    refine lv_iconst (v := -1) hx hb dX11_turns_30 (by decide) ?_
    refine lv_lload hx hb dX11_turns_31 (lv_at hl 1 rfl) ?_
    obtain ⟨_, r12⟩ := t_rec t hu0 (by decide) wf_60
    refine k_l (r_V C h hl (As := [.int u1, .int u4, .int (-1), .long w6]) (rest := []) (s_X11_partX l D G b0 τ f t u0 hu0 u1 hu1 u4 (iv_w i3 (by decide)) (-1) (iv_w (iv_k (x := (-1)) (k := (-1)) rfl) (by decide)) w6 bq hbq k_u0_6 rb hRbq (show 0 ≤ w6.toInt ∧ w6.toInt ≤ 1000002 from (by omega))) r12 (Cn := RX11) (T := TX11) (N := 32) rfl rfl mk_X11_part w_1883 w_1885 w_72 w_1886 ⟨Nat.le_of_ble_eq_true rfl, Nat.le_of_ble_eq_true rfl⟩ rfl (Nat.le_of_ble_eq_true rfl) ⟨Nat.le_of_ble_eq_true rfl, Nat.le_of_ble_eq_true rfl⟩ rfl dX11_turns_33) h (fun r13 f14 H locs p15 h => ?_)
    have n16 : (-1 : Int32).toInt = (-1) := rfl
    obtain ⟨ir13, tf14, ogf14, x0r13, x1r13⟩ := p15
    have x0r13 : r13.toInt = ptf (fun k : Int => (rb (10 * u1.toInt + k).toNat).toInt) u4.toInt (-1) w6.toInt 8 % 1000003 := x0r13
    have x1r13 : 0 ≤ r13.toInt ∧ r13.toInt ≤ 1000002 := x1r13
    have egf14 := Fr.nil2 ogf14
    subst egf14
    have hq_ : (u4.toInt = 0 → r8.toInt = mx ((fun k : Int => (rb (10 * u1.toInt + k).toNat).toInt) 1) ((fun k : Int => (rb (10 * u1.toInt + k).toNat).toInt) 2) ((fun k : Int => (rb (10 * u1.toInt + k).toNat).toInt) 3) u3.toInt ∧ r13.toInt = mx ((fun k : Int => (rb (10 * u1.toInt + k).toNat).toInt) 7) ((fun k : Int => (rb (10 * u1.toInt + k).toNat).toInt) 6) ((fun k : Int => (rb (10 * u1.toInt + k).toNat).toInt) 5) u3.toInt) ∧ (u4.toInt = 1 → r8.toInt = mx ((fun k : Int => (rb (10 * u1.toInt + k).toNat).toInt) 1) ((fun k : Int => (rb (10 * u1.toInt + k).toNat).toInt) 0) ((fun k : Int => (rb (10 * u1.toInt + k).toNat).toInt) 7) u2.toInt ∧ r13.toInt = mx ((fun k : Int => (rb (10 * u1.toInt + k).toNat).toInt) 3) ((fun k : Int => (rb (10 * u1.toInt + k).toNat).toInt) 4) ((fun k : Int => (rb (10 * u1.toInt + k).toNat).toInt) 5) u2.toInt) := by
      refine ⟨fun z_ => ?_, fun z_ => ?_⟩
      · first | (exfalso; omega) | (rw [x0r8, x0r13, z_, mw6]; exact ⟨ptf_0p _ _, ptf_0n _ _⟩)
      · first | (exfalso; omega) | (rw [x0r8, x0r13, z_, mw6]; exact ⟨ptf_1p _ _, ptf_1n _ _⟩)
    refine lv_lstore (lv' := [(9, .long r13), (7, .long r8), (5, .long w6), (0, .ref u0), (1, .int u1), (2, .int u2), (3, .int u3), (4, .int u4)]) hx hb dX11_turns_36 hl (by decide) rfl (fun ls hl => ?_)
    refine lv_lload hx hb dX11_turns_38 (lv_at hl 1 rfl) ?_
    refine lv_lconst (v := 0) hx hb dX11_turns_40 (by decide) ?_
    refine W.lcmp hx hb dX11_turns_41 (i_topc (fun z17 ez17 mz17 iz17 => ?_))
    refine lv_if_eq (tgt := 52) hx hb dX11_turns_42 (by decide) (fun c18 => ?_) (fun c18 => ?_)
    · have c19 : z17.toInt = 0 := congrArg Int32.toInt c18
      have i20 : iv z17 0 0 := iv_Q c19 iz17 (iv_k (x := 0) (k := 0) rfl) (by decide)
      refine lv_iconst (v := -1) hx hb dX11_turns_52 (by decide) ?_
      exact u_iret C h hr hQ (⟨⟨by decide, by decide⟩, t, o, (by
          show (-1 : Int) = _
          rcases (show u4.toInt = 0 ∨ u4.toInt = 1 by omega) with z_ | z_
          · obtain ⟨q1_, q2_⟩ := hq_.1 z_; unfold tw_ tX quo; rw [if_pos z_, ← q1_, ← q2_, if_pos (by have n_ : (0 : Int64).toInt = 0 := rfl; omega)]
          · obtain ⟨q1_, q2_⟩ := hq_.2 z_; unfold tw_ tY quo; rw [if_neg (by omega), ← q1_, ← q2_, if_pos (by have n_ : (0 : Int64).toInt = 0 := rfl; omega)])⟩) (Nat.le_of_ble_eq_true rfl) (Nat.le_of_ble_eq_true rfl) dX11_turns_53
    · have c21 : z17.toInt ≠ 0 := fun z_ => c18 (Int32.toInt_inj.mp z_)
      refine lv_lload hx hb dX11_turns_45 (lv_at hl 0 rfl) ?_
      refine lv_lconst (v := 0) hx hb dX11_turns_47 (by decide) ?_
      refine W.lcmp hx hb dX11_turns_48 (i_topc (fun z22 ez22 mz22 iz22 => ?_))
      refine lv_if_ne (tgt := 54) hx hb dX11_turns_49 (by decide) (fun c23 => ?_) (fun c23 => ?_)
      · have c24 : z22.toInt ≠ 0 := fun z_ => c23 (Int32.toInt_inj.mp z_)
        refine lv_lload hx hb dX11_turns_54 (lv_at hl 0 rfl) ?_
        refine lv_lload hx hb dX11_turns_56 (lv_at hl 1 rfl) ?_
        refine lv_iload hx hb dX11_turns_58 (lv_at hl 7 rfl) ?_
        refine lv_if_ne (tgt := 67) hx hb dX11_turns_60 (by decide) (fun c27 => ?_) (fun c27 => ?_)
        · have c28 : u4.toInt ≠ 0 := fun z_ => c27 (Int32.toInt_inj.mp z_)
          refine lv_iload_n hx hb dX11_turns_67 rfl (lv_at hl 6 rfl) ?_
          refine lv_i2l hx hb dX11_turns_68 rfl (i_topL hu3 (fun w30 ew30 mw30 iw30 => ?_))
          refine lv_lmul hx hb dX11_turns_69 (lv_topl (fun w31 ew31 => ?_))
          obtain ⟨mw31, bw31⟩ := L_mulp (A := 1000002) (B := 1000002) ew31 ⟨by omega, by omega⟩ ⟨by omega, by omega⟩ (by decide)
          rw [mw30] at mw31
          refine lv_ldc2 (v := 1000003) hx hb hown (hts _ w_1719) dX11_turns_70 ?_
          refine lv_lrem hx hb dX11_turns_73 (by decide) (i_topl (lrem_iv (k := 1000003) rfl (by decide) (lo := -1000002) (hi := 1000002) (by decide)) (fun w32 ew32 iw32 => ?_))
          have mw32 := L_rem ew32 (by omega)
          refine k_l (r_S C h hl (As := [.long w32]) (rest := [.long r13]) (s_X11_inverseX l D G b0 τ f t w32 (by omega)) mk_X11_inverse w_1800 w_1801 w_1802 ⟨Nat.le_of_ble_eq_true rfl, Nat.le_of_ble_eq_true rfl⟩ rfl (Nat.le_of_ble_eq_true rfl) ⟨Nat.le_of_ble_eq_true rfl, Nat.le_of_ble_eq_true rfl⟩ rfl dX11_turns_74) h (fun r33 f34 H locs p35 h => ?_)
          obtain ⟨ir33, tf34, ogf34, x0r33, x1r33⟩ := p35
          have egf34 := Fr.nil2 ogf34
          subst egf34
          refine lv_lmul hx hb dX11_turns_77 (lv_topl (fun w36 ew36 => ?_))
          obtain ⟨mw36, bw36⟩ := L_mulp (A := 1000002) (B := 1000002) ew36 ⟨by omega, by omega⟩ ⟨by omega, by omega⟩ (by decide)
          refine lv_ldc2 (v := 1000003) hx hb hown (hts _ w_1719) dX11_turns_78 ?_
          refine lv_lrem hx hb dX11_turns_81 (by decide) (i_topl (lrem_iv (k := 1000003) rfl (by decide) (lo := -1000002) (hi := 1000002) (by decide)) (fun w37 ew37 iw37 => ?_))
          have mw37 := L_rem ew37 (by omega)
          refine lv_l2i hx hb dX11_turns_82 rfl (i_top (iv_l2i iw37 (by decide)) (fun z38 ez38 iz38 => ?_))
          have mz38 := L_l2i ez38 (by omega)
          exact u_iret C h hr hQ (⟨(show iv z38 (-1) 1000002 from by omega), t, o, (by
              rcases (show u4.toInt = 0 ∨ u4.toInt = 1 by omega) with z_ | z_
              · first | (exfalso; omega) | (obtain ⟨q1_, q2_⟩ := hq_.1 z_; unfold tw_ tX quo; rw [if_pos z_, ← q1_, ← q2_, if_neg (by have n_ : (0 : Int64).toInt = 0 := rfl; omega), mz38, mw37, mw36, x0r33, mw32, mw31])
              · first | (exfalso; omega) | (obtain ⟨q1_, q2_⟩ := hq_.2 z_; unfold tw_ tY quo; rw [if_neg (by omega), ← q1_, ← q2_, if_neg (by have n_ : (0 : Int64).toInt = 0 := rfl; omega), mz38, mw37, mw36, x0r33, mw32, mw31]))⟩) (Nat.le_of_ble_eq_true rfl) (Nat.le_of_ble_eq_true rfl) dX11_turns_83
        · have c29 : u4.toInt = 0 := congrArg Int32.toInt c27
          exact (iv_cq_ c29 i3 (iv_k (x := 0) (k := 0) rfl) (by decide)).elim
      · have c25 : z22.toInt = 0 := congrArg Int32.toInt c23
        have i26 : iv z22 0 0 := iv_Q c25 iz22 (iv_k (x := 0) (k := 0) rfl) (by decide)
        refine lv_iconst (v := -1) hx hb dX11_turns_52 (by decide) ?_
        exact u_iret C h hr hQ (⟨⟨by decide, by decide⟩, t, o, (by
            show (-1 : Int) = _
            rcases (show u4.toInt = 0 ∨ u4.toInt = 1 by omega) with z_ | z_
            · obtain ⟨q1_, q2_⟩ := hq_.1 z_; unfold tw_ tX quo; rw [if_pos z_, ← q1_, ← q2_, if_pos (by have n_ : (0 : Int64).toInt = 0 := rfl; omega)]
            · obtain ⟨q1_, q2_⟩ := hq_.2 z_; unfold tw_ tY quo; rw [if_neg (by omega), ← q1_, ← q2_, if_pos (by have n_ : (0 : Int64).toInt = 0 := rfl; omega)])⟩) (Nat.le_of_ble_eq_true rfl) (Nat.le_of_ble_eq_true rfl) dX11_turns_53
  · have c4 : u4.toInt = 0 := congrArg Int32.toInt c1
    have i5 : iv u4 0 0 := iv_Q c4 hu4 (iv_k (x := 0) (k := 0) rfl) (by decide)
    refine lv_iload_n hx hb dX11_turns_5 rfl (lv_at hl 3 rfl) ?_
    refine lv_i2l hx hb dX11_turns_6 rfl (i_topL hu3 (fun w39 ew39 mw39 iw39 => ?_))
    refine lv_goto (tgt := 12) hx hb dX11_turns_7 (by decide) ?_
    refine lv_lstore (lv' := [(5, .long w39), (0, .ref u0), (1, .int u1), (2, .int u2), (3, .int u3), (4, .int u4)]) hx hb dX11_turns_12 hl (by decide) rfl (fun ls hl => ?_)
    refine lv_aload_n hx hb dX11_turns_14 rfl (lv_at hl 1 rfl) ?_
    refine lv_iload_n hx hb dX11_turns_15 rfl (lv_at hl 2 rfl) ?_
    refine lv_iload hx hb dX11_turns_16 (lv_at hl 5 rfl) ?_
    refine lv_iconst (v := 1) hx hb dX11_turns_18 (by decide) ?_
    refine lv_lload hx hb dX11_turns_19 (lv_at hl 0 rfl) ?_
    obtain ⟨_, r40⟩ := t_rec t hu0 (by decide) wf_60
    refine k_l (r_V C h hl (As := [.int u1, .int u4, .int 1, .long w39]) (rest := []) (s_X11_partX l D G b0 τ f t u0 hu0 u1 hu1 u4 (iv_w i5 (by decide)) 1 (iv_w (iv_k (x := 1) (k := 1) rfl) (by decide)) w39 bq hbq k_u0_6 rb hRbq (show 0 ≤ w39.toInt ∧ w39.toInt ≤ 1000002 from (by omega))) r40 (Cn := RX11) (T := TX11) (N := 32) rfl rfl mk_X11_part w_1883 w_1885 w_72 w_1886 ⟨Nat.le_of_ble_eq_true rfl, Nat.le_of_ble_eq_true rfl⟩ rfl (Nat.le_of_ble_eq_true rfl) ⟨Nat.le_of_ble_eq_true rfl, Nat.le_of_ble_eq_true rfl⟩ rfl dX11_turns_21) h (fun r41 f42 H locs p43 h => ?_)
    have n44 : (1 : Int32).toInt = 1 := rfl
    obtain ⟨ir41, tf42, ogf42, x0r41, x1r41⟩ := p43
    have x0r41 : r41.toInt = ptf (fun k : Int => (rb (10 * u1.toInt + k).toNat).toInt) u4.toInt 1 w39.toInt 8 % 1000003 := x0r41
    have x1r41 : 0 ≤ r41.toInt ∧ r41.toInt ≤ 1000002 := x1r41
    have egf42 := Fr.nil2 ogf42
    subst egf42
    refine lv_lstore (lv' := [(7, .long r41), (5, .long w39), (0, .ref u0), (1, .int u1), (2, .int u2), (3, .int u3), (4, .int u4)]) hx hb dX11_turns_24 hl (by decide) rfl (fun ls hl => ?_)
    refine lv_aload_n hx hb dX11_turns_26 rfl (lv_at hl 2 rfl) ?_
    refine lv_iload_n hx hb dX11_turns_27 rfl (lv_at hl 3 rfl) ?_
    refine lv_iload hx hb dX11_turns_28 (lv_at hl 6 rfl) ?_
    refine lv_iconst (v := -1) hx hb dX11_turns_30 (by decide) ?_
    refine lv_lload hx hb dX11_turns_31 (lv_at hl 1 rfl) ?_
    obtain ⟨_, r45⟩ := t_rec t hu0 (by decide) wf_60
    refine k_l (r_V C h hl (As := [.int u1, .int u4, .int (-1), .long w39]) (rest := []) (s_X11_partX l D G b0 τ f t u0 hu0 u1 hu1 u4 (iv_w i5 (by decide)) (-1) (iv_w (iv_k (x := (-1)) (k := (-1)) rfl) (by decide)) w39 bq hbq k_u0_6 rb hRbq (show 0 ≤ w39.toInt ∧ w39.toInt ≤ 1000002 from (by omega))) r45 (Cn := RX11) (T := TX11) (N := 32) rfl rfl mk_X11_part w_1883 w_1885 w_72 w_1886 ⟨Nat.le_of_ble_eq_true rfl, Nat.le_of_ble_eq_true rfl⟩ rfl (Nat.le_of_ble_eq_true rfl) ⟨Nat.le_of_ble_eq_true rfl, Nat.le_of_ble_eq_true rfl⟩ rfl dX11_turns_33) h (fun r46 f47 H locs p48 h => ?_)
    have n49 : (-1 : Int32).toInt = (-1) := rfl
    obtain ⟨ir46, tf47, ogf47, x0r46, x1r46⟩ := p48
    have x0r46 : r46.toInt = ptf (fun k : Int => (rb (10 * u1.toInt + k).toNat).toInt) u4.toInt (-1) w39.toInt 8 % 1000003 := x0r46
    have x1r46 : 0 ≤ r46.toInt ∧ r46.toInt ≤ 1000002 := x1r46
    have egf47 := Fr.nil2 ogf47
    subst egf47
    have hq_ : (u4.toInt = 0 → r41.toInt = mx ((fun k : Int => (rb (10 * u1.toInt + k).toNat).toInt) 1) ((fun k : Int => (rb (10 * u1.toInt + k).toNat).toInt) 2) ((fun k : Int => (rb (10 * u1.toInt + k).toNat).toInt) 3) u3.toInt ∧ r46.toInt = mx ((fun k : Int => (rb (10 * u1.toInt + k).toNat).toInt) 7) ((fun k : Int => (rb (10 * u1.toInt + k).toNat).toInt) 6) ((fun k : Int => (rb (10 * u1.toInt + k).toNat).toInt) 5) u3.toInt) ∧ (u4.toInt = 1 → r41.toInt = mx ((fun k : Int => (rb (10 * u1.toInt + k).toNat).toInt) 1) ((fun k : Int => (rb (10 * u1.toInt + k).toNat).toInt) 0) ((fun k : Int => (rb (10 * u1.toInt + k).toNat).toInt) 7) u2.toInt ∧ r46.toInt = mx ((fun k : Int => (rb (10 * u1.toInt + k).toNat).toInt) 3) ((fun k : Int => (rb (10 * u1.toInt + k).toNat).toInt) 4) ((fun k : Int => (rb (10 * u1.toInt + k).toNat).toInt) 5) u2.toInt) := by
      refine ⟨fun z_ => ?_, fun z_ => ?_⟩
      · first | (exfalso; omega) | (rw [x0r41, x0r46, z_, mw39]; exact ⟨ptf_0p _ _, ptf_0n _ _⟩)
      · first | (exfalso; omega) | (rw [x0r41, x0r46, z_, mw39]; exact ⟨ptf_1p _ _, ptf_1n _ _⟩)
    refine lv_lstore (lv' := [(9, .long r46), (7, .long r41), (5, .long w39), (0, .ref u0), (1, .int u1), (2, .int u2), (3, .int u3), (4, .int u4)]) hx hb dX11_turns_36 hl (by decide) rfl (fun ls hl => ?_)
    refine lv_lload hx hb dX11_turns_38 (lv_at hl 1 rfl) ?_
    refine lv_lconst (v := 0) hx hb dX11_turns_40 (by decide) ?_
    refine W.lcmp hx hb dX11_turns_41 (i_topc (fun z50 ez50 mz50 iz50 => ?_))
    refine lv_if_eq (tgt := 52) hx hb dX11_turns_42 (by decide) (fun c51 => ?_) (fun c51 => ?_)
    · have c52 : z50.toInt = 0 := congrArg Int32.toInt c51
      have i53 : iv z50 0 0 := iv_Q c52 iz50 (iv_k (x := 0) (k := 0) rfl) (by decide)
      refine lv_iconst (v := -1) hx hb dX11_turns_52 (by decide) ?_
      exact u_iret C h hr hQ (⟨⟨by decide, by decide⟩, t, o, (by
          show (-1 : Int) = _
          rcases (show u4.toInt = 0 ∨ u4.toInt = 1 by omega) with z_ | z_
          · obtain ⟨q1_, q2_⟩ := hq_.1 z_; unfold tw_ tX quo; rw [if_pos z_, ← q1_, ← q2_, if_pos (by have n_ : (0 : Int64).toInt = 0 := rfl; omega)]
          · obtain ⟨q1_, q2_⟩ := hq_.2 z_; unfold tw_ tY quo; rw [if_neg (by omega), ← q1_, ← q2_, if_pos (by have n_ : (0 : Int64).toInt = 0 := rfl; omega)])⟩) (Nat.le_of_ble_eq_true rfl) (Nat.le_of_ble_eq_true rfl) dX11_turns_53
    · have c54 : z50.toInt ≠ 0 := fun z_ => c51 (Int32.toInt_inj.mp z_)
      refine lv_lload hx hb dX11_turns_45 (lv_at hl 0 rfl) ?_
      refine lv_lconst (v := 0) hx hb dX11_turns_47 (by decide) ?_
      refine W.lcmp hx hb dX11_turns_48 (i_topc (fun z55 ez55 mz55 iz55 => ?_))
      refine lv_if_ne (tgt := 54) hx hb dX11_turns_49 (by decide) (fun c56 => ?_) (fun c56 => ?_)
      · have c57 : z55.toInt ≠ 0 := fun z_ => c56 (Int32.toInt_inj.mp z_)
        refine lv_lload hx hb dX11_turns_54 (lv_at hl 0 rfl) ?_
        refine lv_lload hx hb dX11_turns_56 (lv_at hl 1 rfl) ?_
        refine lv_iload hx hb dX11_turns_58 (lv_at hl 7 rfl) ?_
        refine lv_if_ne (tgt := 67) hx hb dX11_turns_60 (by decide) (fun c60 => ?_) (fun c60 => ?_)
        · have c61 : u4.toInt ≠ 0 := fun z_ => c60 (Int32.toInt_inj.mp z_)
          exact (iv_cn_ c61 i5 (iv_k (x := 0) (k := 0) rfl) (by decide)).elim
        · have c62 : u4.toInt = 0 := congrArg Int32.toInt c60
          refine lv_iload_n hx hb dX11_turns_63 rfl (lv_at hl 5 rfl) ?_
          refine lv_goto (tgt := 68) hx hb dX11_turns_64 (by decide) ?_
          refine lv_i2l hx hb dX11_turns_68 rfl (i_topL hu2 (fun w63 ew63 mw63 iw63 => ?_))
          refine lv_lmul hx hb dX11_turns_69 (lv_topl (fun w64 ew64 => ?_))
          obtain ⟨mw64, bw64⟩ := L_mulp (A := 1000002) (B := 1000002) ew64 ⟨by omega, by omega⟩ ⟨by omega, by omega⟩ (by decide)
          rw [mw63] at mw64
          refine lv_ldc2 (v := 1000003) hx hb hown (hts _ w_1719) dX11_turns_70 ?_
          refine lv_lrem hx hb dX11_turns_73 (by decide) (i_topl (lrem_iv (k := 1000003) rfl (by decide) (lo := -1000002) (hi := 1000002) (by decide)) (fun w65 ew65 iw65 => ?_))
          have mw65 := L_rem ew65 (by omega)
          refine k_l (r_S C h hl (As := [.long w65]) (rest := [.long r46]) (s_X11_inverseX l D G b0 τ f t w65 (by omega)) mk_X11_inverse w_1800 w_1801 w_1802 ⟨Nat.le_of_ble_eq_true rfl, Nat.le_of_ble_eq_true rfl⟩ rfl (Nat.le_of_ble_eq_true rfl) ⟨Nat.le_of_ble_eq_true rfl, Nat.le_of_ble_eq_true rfl⟩ rfl dX11_turns_74) h (fun r66 f67 H locs p68 h => ?_)
          obtain ⟨ir66, tf67, ogf67, x0r66, x1r66⟩ := p68
          have egf67 := Fr.nil2 ogf67
          subst egf67
          refine lv_lmul hx hb dX11_turns_77 (lv_topl (fun w69 ew69 => ?_))
          obtain ⟨mw69, bw69⟩ := L_mulp (A := 1000002) (B := 1000002) ew69 ⟨by omega, by omega⟩ ⟨by omega, by omega⟩ (by decide)
          refine lv_ldc2 (v := 1000003) hx hb hown (hts _ w_1719) dX11_turns_78 ?_
          refine lv_lrem hx hb dX11_turns_81 (by decide) (i_topl (lrem_iv (k := 1000003) rfl (by decide) (lo := -1000002) (hi := 1000002) (by decide)) (fun w70 ew70 iw70 => ?_))
          have mw70 := L_rem ew70 (by omega)
          refine lv_l2i hx hb dX11_turns_82 rfl (i_top (iv_l2i iw70 (by decide)) (fun z71 ez71 iz71 => ?_))
          have mz71 := L_l2i ez71 (by omega)
          exact u_iret C h hr hQ (⟨(show iv z71 (-1) 1000002 from by omega), t, o, (by
              rcases (show u4.toInt = 0 ∨ u4.toInt = 1 by omega) with z_ | z_
              · first | (exfalso; omega) | (obtain ⟨q1_, q2_⟩ := hq_.1 z_; unfold tw_ tX quo; rw [if_pos z_, ← q1_, ← q2_, if_neg (by have n_ : (0 : Int64).toInt = 0 := rfl; omega), mz71, mw70, mw69, x0r66, mw65, mw64])
              · first | (exfalso; omega) | (obtain ⟨q1_, q2_⟩ := hq_.2 z_; unfold tw_ tY quo; rw [if_neg (by omega), ← q1_, ← q2_, if_neg (by have n_ : (0 : Int64).toInt = 0 := rfl; omega), mz71, mw70, mw69, x0r66, mw65, mw64]))⟩) (Nat.le_of_ble_eq_true rfl) (Nat.le_of_ble_eq_true rfl) dX11_turns_83
      · have c58 : z55.toInt = 0 := congrArg Int32.toInt c56
        have i59 : iv z55 0 0 := iv_Q c58 iz55 (iv_k (x := 0) (k := 0) rfl) (by decide)
        refine lv_iconst (v := -1) hx hb dX11_turns_52 (by decide) ?_
        exact u_iret C h hr hQ (⟨⟨by decide, by decide⟩, t, o, (by
            show (-1 : Int) = _
            rcases (show u4.toInt = 0 ∨ u4.toInt = 1 by omega) with z_ | z_
            · obtain ⟨q1_, q2_⟩ := hq_.1 z_; unfold tw_ tX quo; rw [if_pos z_, ← q1_, ← q2_, if_pos (by have n_ : (0 : Int64).toInt = 0 := rfl; omega)]
            · obtain ⟨q1_, q2_⟩ := hq_.2 z_; unfold tw_ tY quo; rw [if_neg (by omega), ← q1_, ← q2_, if_pos (by have n_ : (0 : Int64).toInt = 0 := rfl; omega)])⟩) (Nat.le_of_ble_eq_true rfl) (Nat.le_of_ble_eq_true rfl) dX11_turns_53
abbrev rm_s_X11_kernelX : Room := { frames := 3, cells := 0, slots := 0, locals := 70 }
set_option maxRecDepth 100000 in
set_option maxHeartbeats 4000000 in
theorem s_X11_kernelX (l : Launch) (D : va_G) (G : Nat → Nat) (b0 : Nat) (τ : Nat → Nat) (f : hM) (t : TI G 9 τ f) (u0 : Nat) (hu0 : τ u0 = 60) (u1 : Int32) (hu1 : iv u1 (-2147483648) 2147483647) (u2 : Int32) (hu2 : iv u2 (-2147483648) 2147483647) (u3 : Int32) (hu3 : iv u3 (-2147483648) 2147483647) (bq : Nat) (hbq : τ bq = 63) (k_u0_6 : atp f u0 (fd 6 (.ref bq))) (rb : Nat → Int32) (hRbq : atp f bq (eqc (.inl (G 1, 81, .inl rb)))) : mI l yX11_kernel cX11_kernel 7 (.int) rm_s_X11_kernelX D G b0 f [.ref u0, .int u1, .int u2, .int u3] (fun r f1 => iv r (-1000002) 1000002 ∧ TI G 9 τ f1 ∧ Fr [60, 60001] τ f f1 ∧ (((0 ≤ u1.toInt ∧ u1.toInt < (rb 80).toInt) ∧ 1 ≤ u2.toInt ∧ u2.toInt ≤ 1000002 ∧ 1 ≤ u3.toInt ∧ u3.toInt ≤ 1000002 → r.toInt = ker (fun k : Int => (rb (10 * u1.toInt + k).toNat).toInt) u2.toInt u3.toInt) ∧ (¬ ((0 ≤ u1.toInt ∧ u1.toInt < (rb 80).toInt) ∧ 1 ≤ u2.toInt ∧ u2.toInt ≤ 1000002 ∧ 1 ≤ u3.toInt ∧ u3.toInt ≤ 1000002) → r.toInt = -1))) := by
  refine met2 (own := RX11) (by decide) rfl (Nat.le_of_ble_eq_true rfl) ?_
  intro p e s m args below meth c ls Q hQ C hr hini hl h
  have hl : lv_has ls 7 [(0, .ref u0), (1, .int u1), (2, .int u2), (3, .int u3)] := hl
  obtain ⟨hx, hb, hml, hown, hts, hE0, hlk⟩ := id C
  have o := Fr.rf [60, 60001] τ f
  have L29 : ∀ (n29 : Nat) (ls : Array Slot) (f_29 : hM) (H : Heap) (locs : List Loc) (v29_4 : Int64) (v29_6 : Int32), 8 - v29_6.toInt < (n29 : Int) → lv_has ls 7 [(0, .ref u0), (1, .int u1), (2, .int u2), (3, .int u3), (4, .long v29_4), (6, .int v29_6)] → hw D b0 s.heap f_29 H locs → TI G 9 τ f_29 → Fr [60, 60001] τ f f_29 → iv u1 0 7 → iv u2 1 1000002 → iv u3 1 1000002 → iv v29_6 0 8 → atp f_29 u0 (fd 6 (.ref bq)) → atp f_29 bq (eqc (.inl (G 1, 81, .inl rb))) → 0 ≤ v29_4.toInt ∧ v29_4.toInt ≤ 1000002 * v29_6.toInt → (v29_4.toInt = knf (fun k : Int => (rb (10 * u1.toInt + k).toNat).toInt) u2.toInt u3.toInt (Int.toNat v29_6.toInt)) → 0 ≤ u1.toInt ∧ u1.toInt < (rb 80).toInt ∧ 1 ≤ u2.toInt ∧ u2.toInt ≤ 1000002 ∧ 1 ≤ u3.toInt ∧ u3.toInt ≤ 1000002 → W p l e rm_s_X11_kernelX s m args below meth c H locs 0 0 Q (F0 m 29 ls []) := by
    intro n29
    induction n29 with
    | zero => intro ls f_29 H locs v29_4 v29_6 hm29 hl h t_29 o_29 jv29_1 jv29_2 jv29_3 iv29_6 k29_u0_6 k29_bq_R hv29_0 hv29_1 hv29_2; exact absurd hm29 (by omega)
    | succ n29 ih29 =>
      intro ls f_29 H locs v29_4 v29_6 hm29 hl h t_29 o_29 jv29_1 jv29_2 jv29_3 iv29_6 k29_u0_6 k29_bq_R hv29_0 hv29_1 hv29_2
      refine lv_iload hx hb dX11_kernel_29 (lv_at hl 5 rfl) ?_
      refine lv_bipush (v := 8) hx hb dX11_kernel_31 (by decide) ?_
      refine lv_icmp_ge (tgt := 85) hx hb dX11_kernel_33 (by decide) (fun c1 => ?_) (fun c1 => ?_)
      · have c2 : 8 ≤ v29_6.toInt := Int32.le_iff_toInt_le.mp c1
        have i3 : iv v29_6 8 8 := iv_Er c2 (iv_k (x := 8) (k := 8) rfl) iv29_6 (by decide)
        refine lv_lload hx hb dX11_kernel_85 (lv_at hl 4 rfl) ?_
        refine lv_ldc2 (v := 1000003) hx hb hown (hts _ w_1719) dX11_kernel_87 ?_
        refine lv_lrem hx hb dX11_kernel_90 (by decide) (i_topl (lrem_iv (k := 1000003) rfl (by decide) (lo := -1000002) (hi := 1000002) (by decide)) (fun w6 ew6 iw6 => ?_))
        have mw6 := L_rem ew6 (by omega)
        refine lv_l2i hx hb dX11_kernel_91 rfl (i_top (iv_l2i iw6 (by decide)) (fun z7 ez7 iz7 => ?_))
        have mz7 := L_l2i ez7 (by omega)
        exact u_iret C h hr hQ (⟨iz7, t_29, o_29, ⟨fun _ => (by rw [mz7, mw6, hv29_1, show v29_6.toInt.toNat = 8 by omega]; exact knf_8 _ _ _), fun z_ => absurd (by omega) z_⟩⟩) (Nat.le_of_ble_eq_true rfl) (Nat.le_of_ble_eq_true rfl) dX11_kernel_92
      · have c4 : v29_6.toInt < 8 := Int32.lt_iff_toInt_lt.mp (iv_nle c1)
        have i5 : iv v29_6 0 7 := iv_Ll c4 iv29_6 (iv_k (x := 8) (k := 8) rfl) (by decide)
        refine lv_lload hx hb dX11_kernel_36 (lv_at hl 4 rfl) ?_
        refine lv_aload_n hx hb dX11_kernel_38 rfl (lv_at hl 0 rfl) ?_
        refine lv_iload_n hx hb dX11_kernel_39 rfl (lv_at hl 1 rfl) ?_
        refine lv_iload hx hb dX11_kernel_40 (lv_at hl 5 rfl) ?_
        obtain ⟨_, r8⟩ := t_rec t_29 hu0 (by decide) wf_60
        refine k_i (r_V C h hl (As := [.int u1, .int v29_6]) (rest := [.long v29_4]) (s_X11_weightOfX l D G b0 τ f_29 t_29 u0 hu0 u1 jv29_1 v29_6 (iv_w i5 (by decide)) bq hbq k29_u0_6 rb k29_bq_R) r8 (Cn := RX11) (T := TX11) (N := 32) rfl rfl mk_X11_weightOf w_1631 w_1633 w_52 w_1634 ⟨Nat.le_of_ble_eq_true rfl, Nat.le_of_ble_eq_true rfl⟩ rfl (Nat.le_of_ble_eq_true rfl) ⟨Nat.le_of_ble_eq_true rfl, Nat.le_of_ble_eq_true rfl⟩ rfl dX11_kernel_42) h (fun r9 f10 H locs p11 h => ?_)
        obtain ⟨ir9, tf10, ogf10, x0r9, x1r9⟩ := p11
        have egf10 := Fr.nil2 ogf10
        subst egf10
        refine lv_i2l hx hb dX11_kernel_45 rfl (i_topL ir9 (fun w12 ew12 mw12 iw12 => ?_))
        refine lv_iload_n hx hb dX11_kernel_46 rfl (lv_at hl 2 rfl) ?_
        refine lv_i2l hx hb dX11_kernel_47 rfl (i_topL jv29_2 (fun w13 ew13 mw13 iw13 => ?_))
        refine lv_iload hx hb dX11_kernel_48 (lv_at hl 5 rfl) ?_
        refine k_i (r_S C h hl (As := [.int v29_6]) (rest := [.long w13, .long w12, .long v29_4]) (s_X11_dxX l D G b0 τ f_29 t_29 v29_6 i5) mk_X11_dx w_1675 w_1676 w_1677 ⟨Nat.le_of_ble_eq_true rfl, Nat.le_of_ble_eq_true rfl⟩ rfl (Nat.le_of_ble_eq_true rfl) ⟨Nat.le_of_ble_eq_true rfl, Nat.le_of_ble_eq_true rfl⟩ rfl dX11_kernel_50) h (fun r14 f15 H locs p16 h => ?_)
        obtain ⟨ir14, tf15, ogf15, x0r14⟩ := p16
        have egf15 := Fr.nil2 ogf15
        subst egf15
        refine k_l (r_S C h hl (As := [.long w13, .int r14]) (rest := [.long w12, .long v29_4]) (s_X11_byX l D G b0 τ f_29 t_29 w13 r14 ir14 (by omega)) mk_X11_by w_1872 w_1873 w_1874 ⟨Nat.le_of_ble_eq_true rfl, Nat.le_of_ble_eq_true rfl⟩ rfl (Nat.le_of_ble_eq_true rfl) ⟨Nat.le_of_ble_eq_true rfl, Nat.le_of_ble_eq_true rfl⟩ rfl dX11_kernel_53) h (fun r17 f18 H locs p19 h => ?_)
        obtain ⟨tf18, ogf18, x0r17, x1r17⟩ := p19
        have egf18 := Fr.nil2 ogf18
        subst egf18
        refine lv_lmul hx hb dX11_kernel_56 (lv_topl (fun w20 ew20 => ?_))
        obtain ⟨mw20, bw20⟩ := L_mulp (A := 9) (B := 1000002) ew20 ⟨by omega, by omega⟩ ⟨by omega, by omega⟩ (by decide)
        rw [mw12] at mw20
        refine lv_ldc2 (v := 1000003) hx hb hown (hts _ w_1719) dX11_kernel_57 ?_
        refine lv_lrem hx hb dX11_kernel_60 (by decide) (i_topl (lrem_iv (k := 1000003) rfl (by decide) (lo := -1000002) (hi := 1000002) (by decide)) (fun w21 ew21 iw21 => ?_))
        have mw21 := L_rem ew21 (by omega)
        refine lv_iload_n hx hb dX11_kernel_61 rfl (lv_at hl 3 rfl) ?_
        refine lv_i2l hx hb dX11_kernel_62 rfl (i_topL jv29_3 (fun w22 ew22 mw22 iw22 => ?_))
        refine lv_iload hx hb dX11_kernel_63 (lv_at hl 5 rfl) ?_
        refine k_i (r_S C h hl (As := [.int v29_6]) (rest := [.long w22, .long w21, .long v29_4]) (s_X11_dyX l D G b0 τ f_29 t_29 v29_6 i5) mk_X11_dy w_1678 w_1679 w_1680 ⟨Nat.le_of_ble_eq_true rfl, Nat.le_of_ble_eq_true rfl⟩ rfl (Nat.le_of_ble_eq_true rfl) ⟨Nat.le_of_ble_eq_true rfl, Nat.le_of_ble_eq_true rfl⟩ rfl dX11_kernel_65) h (fun r23 f24 H locs p25 h => ?_)
        obtain ⟨ir23, tf24, ogf24, x0r23⟩ := p25
        have egf24 := Fr.nil2 ogf24
        subst egf24
        refine k_l (r_S C h hl (As := [.long w22, .int r23]) (rest := [.long w21, .long v29_4]) (s_X11_byX l D G b0 τ f_29 t_29 w22 r23 ir23 (by omega)) mk_X11_by w_1872 w_1873 w_1874 ⟨Nat.le_of_ble_eq_true rfl, Nat.le_of_ble_eq_true rfl⟩ rfl (Nat.le_of_ble_eq_true rfl) ⟨Nat.le_of_ble_eq_true rfl, Nat.le_of_ble_eq_true rfl⟩ rfl dX11_kernel_68) h (fun r26 f27 H locs p28 h => ?_)
        obtain ⟨tf27, ogf27, x0r26, x1r26⟩ := p28
        have egf27 := Fr.nil2 ogf27
        subst egf27
        refine lv_lmul hx hb dX11_kernel_71 (lv_topl (fun w29 ew29 => ?_))
        obtain ⟨mw29, bw29⟩ := L_mulp (A := 1000002) (B := 1000002) ew29 ⟨by omega, by omega⟩ ⟨by omega, by omega⟩ (by decide)
        refine lv_ldc2 (v := 1000003) hx hb hown (hts _ w_1719) dX11_kernel_72 ?_
        refine lv_lrem hx hb dX11_kernel_75 (by decide) (i_topl (lrem_iv (k := 1000003) rfl (by decide) (lo := -1000002) (hi := 1000002) (by decide)) (fun w30 ew30 iw30 => ?_))
        have mw30 := L_rem ew30 (by omega)
        refine lv_ladd hx hb dX11_kernel_76 (lv_topl (fun w31 ew31 => ?_))
        have mw31 := L_add ew31 (by omega)
        refine lv_lstore (lv' := [(4, .long w31), (0, .ref u0), (1, .int u1), (2, .int u2), (3, .int u3), (6, .int v29_6)]) hx hb dX11_kernel_77 hl (by decide) rfl (fun ls hl => ?_)
        refine i_inc hx hb dX11_kernel_79 hl (k := 5) rfl i5 rfl (lo := 1) (hi := 8) (by decide) (by decide) (lv' := fun v => [(6, .int v), (4, .long w31), (0, .ref u0), (1, .int u1), (2, .int u2), (3, .int u3)]) (fun _ => rfl) (fun z32 ls ez32 mz32 iz32 hl => ?_)
        refine lv_goto (tgt := 29) hx hb dX11_kernel_82 (by decide) ?_
        exact ih29 ls f_29 H locs w31 z32 (show 8 - z32.toInt < _ by omega) (lv_cons hl 2 rfl (lv_cons hl 3 rfl (lv_cons hl 4 rfl (lv_cons hl 5 rfl (lv_cons hl 1 rfl (lv_cons hl 0 rfl (lv_nil hl))))))) h t_29 o_29 jv29_1 jv29_2 jv29_3 (iv_w iz32 (by decide)) k29_u0_6 k29_bq_R (show 0 ≤ w31.toInt ∧ w31.toInt ≤ 1000002 * z32.toInt by omega) (show w31.toInt = knf (fun k : Int => (rb (10 * u1.toInt + k).toNat).toInt) u2.toInt u3.toInt (Int.toNat z32.toInt) from (by rw [knf_s (i := v29_6.toInt) (by omega) (by omega), mw31, mw30, mw29, mw21, mw20, ← hv29_1, x0r17, x0r26, mw13, mw22, x0r14, x0r23, x1r9])) (show 0 ≤ u1.toInt ∧ u1.toInt < (rb 80).toInt ∧ 1 ≤ u2.toInt ∧ u2.toInt ≤ 1000002 ∧ 1 ≤ u3.toInt ∧ u3.toInt ≤ 1000002 by omega)
  refine lv_aload_n hx hb dX11_kernel_0 rfl (lv_at hl 0 rfl) ?_
  refine lv_iconst (v := 0) hx hb dX11_kernel_1 (by decide) ?_
  refine t_put C h t o hu0 (by decide) (by decide) (by decide) wf_60 fw_60 (k := 0) rfl flw_X11_75 (Or.inr ⟨_, _, _, rfl, rfl⟩) (v := .int 0) rfl rfl ⟨_, rfl, ⟨by decide, by decide⟩⟩ dX11_kernel_2 (fun f33 H locs h tf33 of33 hq ha_ hn_ hk_ => ?_)
  have k34 := hk_ 6 _ (by decide) k_u0_6
  have k35 := atp.tg hRbq hq hbq (by decide)
  have k36 := ha_
  refine lv_aload_n hx hb dX11_kernel_5 rfl (lv_at hl 0 rfl) ?_
  refine lv_iload_n hx hb dX11_kernel_6 rfl (lv_at hl 1 rfl) ?_
  obtain ⟨_, r37⟩ := t_rec tf33 hu0 (by decide) wf_60
  refine k_i (r_V C h hl (As := [.int u1]) (rest := []) (s_X11_isSetX l D G b0 τ f33 tf33 u0 hu0 u1 hu1 bq hbq k34 rb k35) r37 (Cn := RX11) (T := TX11) (N := 32) rfl rfl mk_X11_isSet w_1620 w_1622 w_51 w_1623 ⟨Nat.le_of_ble_eq_true rfl, Nat.le_of_ble_eq_true rfl⟩ rfl (Nat.le_of_ble_eq_true rfl) ⟨Nat.le_of_ble_eq_true rfl, Nat.le_of_ble_eq_true rfl⟩ rfl dX11_kernel_7) h (fun r38 f39 H locs p40 h => ?_)
  obtain ⟨ir38, tf39, ogf39, cnr38, czr38⟩ := p40
  have egf39 := Fr.nil2 ogf39
  subst egf39
  refine lv_if_eq (tgt := 21) hx hb dX11_kernel_10 (by decide) (fun c41 => ?_) (fun c41 => ?_)
  · have c42 : r38.toInt = 0 := congrArg Int32.toInt c41
    have i43 : iv r38 0 0 := iv_Q c42 ir38 (iv_k (x := 0) (k := 0) rfl) (by decide)
    have i44 := czr38 c42
    refine lv_iconst (v := -1) hx hb dX11_kernel_21 (by decide) ?_
    exact u_iret C h hr hQ (⟨⟨by decide, by decide⟩, tf33, of33, ⟨fun z_ => absurd z_ (by omega), fun _ => rfl⟩⟩) (Nat.le_of_ble_eq_true rfl) (Nat.le_of_ble_eq_true rfl) dX11_kernel_22
  · have c45 : r38.toInt ≠ 0 := fun z_ => c41 (Int32.toInt_inj.mp z_)
    have i46 : iv r38 1 1 := iv_Nl c45 ir38 (by decide)
    obtain ⟨i47, i48⟩ := cnr38 c45
    refine lv_iload_n hx hb dX11_kernel_13 rfl (lv_at hl 2 rfl) ?_
    refine lv_iload_n hx hb dX11_kernel_14 rfl (lv_at hl 3 rfl) ?_
    refine k_i (r_S C h hl (As := [.int u2, .int u3]) (rest := []) (s_X11_isFieldX l D G b0 τ f33 tf33 u2 hu2 u3 hu3) mk_X11_isField w_1869 w_1870 w_1871 ⟨Nat.le_of_ble_eq_true rfl, Nat.le_of_ble_eq_true rfl⟩ rfl (Nat.le_of_ble_eq_true rfl) ⟨Nat.le_of_ble_eq_true rfl, Nat.le_of_ble_eq_true rfl⟩ rfl dX11_kernel_15) h (fun r49 f50 H locs p51 h => ?_)
    obtain ⟨ir49, tf50, ogf50, cnr49, czr49⟩ := p51
    have egf50 := Fr.nil2 ogf50
    subst egf50
    refine lv_if_ne (tgt := 23) hx hb dX11_kernel_18 (by decide) (fun c52 => ?_) (fun c52 => ?_)
    · have c53 : r49.toInt ≠ 0 := fun z_ => c52 (Int32.toInt_inj.mp z_)
      have i54 : iv r49 1 1 := iv_Nl c53 ir49 (by decide)
      obtain ⟨i55, i56⟩ := cnr49 c53
      refine lv_lconst (v := 0) hx hb dX11_kernel_23 (by decide) ?_
      refine lv_lstore (lv' := [(4, .long 0), (0, .ref u0), (1, .int u1), (2, .int u2), (3, .int u3)]) hx hb dX11_kernel_24 hl (by decide) rfl (fun ls hl => ?_)
      refine lv_iconst (v := 0) hx hb dX11_kernel_26 (by decide) ?_
      refine lv_istore (lv' := [(6, .int 0), (4, .long 0), (0, .ref u0), (1, .int u1), (2, .int u2), (3, .int u3)]) hx hb dX11_kernel_27 hl (by decide) rfl (fun ls hl => ?_)
      exact L29 9 ls f33 H locs 0 0 (by decide) (lv_cons hl 2 rfl (lv_cons hl 3 rfl (lv_cons hl 4 rfl (lv_cons hl 5 rfl (lv_cons hl 1 rfl (lv_cons hl 0 rfl (lv_nil hl))))))) h tf33 of33 i47 i55 i56 ⟨by decide, by decide⟩ k34 k35 (show 0 ≤ 0 ∧ 0 ≤ 1000002 * 0 by omega) (show 0 = knf (fun k : Int => (rb (10 * u1.toInt + k).toNat).toInt) u2.toInt u3.toInt (Int.toNat 0) from (by rfl)) (show 0 ≤ u1.toInt ∧ u1.toInt < (rb 80).toInt ∧ 1 ≤ u2.toInt ∧ u2.toInt ≤ 1000002 ∧ 1 ≤ u3.toInt ∧ u3.toInt ≤ 1000002 by omega)
    · have c57 : r49.toInt = 0 := congrArg Int32.toInt c52
      have i58 : iv r49 0 0 := iv_Q c57 ir49 (iv_k (x := 0) (k := 0) rfl) (by decide)
      have i59 := czr49 c57
      refine lv_iconst (v := -1) hx hb dX11_kernel_21 (by decide) ?_
      exact u_iret C h hr hQ (⟨⟨by decide, by decide⟩, tf33, of33, ⟨fun z_ => absurd z_ (by omega), fun _ => rfl⟩⟩) (Nat.le_of_ble_eq_true rfl) (Nat.le_of_ble_eq_true rfl) dX11_kernel_22
abbrev rm_s_X11_turnedX : Room := { frames := 5, cells := 0, slots := 0, locals := 129 }
set_option maxRecDepth 100000 in
set_option maxHeartbeats 4000000 in
theorem s_X11_turnedX (l : Launch) (D : va_G) (G : Nat → Nat) (b0 : Nat) (τ : Nat → Nat) (f : hM) (t : TI G 9 τ f) (u0 : Nat) (hu0 : τ u0 = 60) (u1 : Int32) (hu1 : iv u1 (-2147483648) 2147483647) (u2 : Int32) (hu2 : iv u2 (-2147483648) 2147483647) (u3 : Int32) (hu3 : iv u3 (-2147483648) 2147483647) (u4 : Int32) (hu4 : iv u4 (-2147483648) 2147483647) (bq : Nat) (hbq : τ bq = 63) (k_u0_6 : atp f u0 (fd 6 (.ref bq))) (rb : Nat → Int32) (hRbq : atp f bq (eqc (.inl (G 1, 81, .inl rb)))) : mI l yX11_turned cX11_turned 5 (.int) rm_s_X11_turnedX D G b0 f [.ref u0, .int u1, .int u2, .int u3, .int u4] (fun r f1 => iv r (-1) 1000002 ∧ TI G 9 τ f1 ∧ Fr [60, 60001] τ f f1 ∧ (((0 ≤ u1.toInt ∧ u1.toInt < (rb 80).toInt) ∧ (1 ≤ u2.toInt ∧ u2.toInt ≤ 1000002 ∧ 1 ≤ u3.toInt ∧ u3.toInt ≤ 1000002) ∧ 0 ≤ u4.toInt ∧ u4.toInt ≤ 1 → r.toInt = tw_ (fun k : Int => (rb (10 * u1.toInt + k).toNat).toInt) u2.toInt u3.toInt u4.toInt) ∧ (¬ ((0 ≤ u1.toInt ∧ u1.toInt < (rb 80).toInt) ∧ (1 ≤ u2.toInt ∧ u2.toInt ≤ 1000002 ∧ 1 ≤ u3.toInt ∧ u3.toInt ≤ 1000002) ∧ 0 ≤ u4.toInt ∧ u4.toInt ≤ 1) → r.toInt = -1))) := by
  refine met2 (own := RX11) (by decide) rfl (Nat.le_of_ble_eq_true rfl) ?_
  intro p e s m args below meth c ls Q hQ C hr hini hl h
  have hl : lv_has ls 5 [(0, .ref u0), (1, .int u1), (2, .int u2), (3, .int u3), (4, .int u4)] := hl
  obtain ⟨hx, hb, hml, hown, hts, hE0, hlk⟩ := id C
  have o := Fr.rf [60, 60001] τ f
  refine lv_aload_n hx hb dX11_turned_0 rfl (lv_at hl 0 rfl) ?_
  refine lv_iconst (v := 0) hx hb dX11_turned_1 (by decide) ?_
  refine t_put C h t o hu0 (by decide) (by decide) (by decide) wf_60 fw_60 (k := 0) rfl flw_X11_75 (Or.inr ⟨_, _, _, rfl, rfl⟩) (v := .int 0) rfl rfl ⟨_, rfl, ⟨by decide, by decide⟩⟩ dX11_turned_2 (fun f1 H locs h tf1 of1 hq ha_ hn_ hk_ => ?_)
  have k2 := hk_ 6 _ (by decide) k_u0_6
  have k3 := atp.tg hRbq hq hbq (by decide)
  have k4 := ha_
  refine lv_aload_n hx hb dX11_turned_5 rfl (lv_at hl 0 rfl) ?_
  refine lv_iload_n hx hb dX11_turned_6 rfl (lv_at hl 1 rfl) ?_
  obtain ⟨_, r5⟩ := t_rec tf1 hu0 (by decide) wf_60
  refine k_i (r_V C h hl (As := [.int u1]) (rest := []) (s_X11_isSetX l D G b0 τ f1 tf1 u0 hu0 u1 hu1 bq hbq k2 rb k3) r5 (Cn := RX11) (T := TX11) (N := 32) rfl rfl mk_X11_isSet w_1620 w_1622 w_51 w_1623 ⟨Nat.le_of_ble_eq_true rfl, Nat.le_of_ble_eq_true rfl⟩ rfl (Nat.le_of_ble_eq_true rfl) ⟨Nat.le_of_ble_eq_true rfl, Nat.le_of_ble_eq_true rfl⟩ rfl dX11_turned_7) h (fun r6 f7 H locs p8 h => ?_)
  obtain ⟨ir6, tf7, ogf7, cnr6, czr6⟩ := p8
  have egf7 := Fr.nil2 ogf7
  subst egf7
  refine lv_if_eq (tgt := 44) hx hb dX11_turned_10 (by decide) (fun c9 => ?_) (fun c9 => ?_)
  · have c10 : r6.toInt = 0 := congrArg Int32.toInt c9
    have i11 : iv r6 0 0 := iv_Q c10 ir6 (iv_k (x := 0) (k := 0) rfl) (by decide)
    have i12 := czr6 c10
    refine lv_iconst (v := -1) hx hb dX11_turned_44 (by decide) ?_
    exact u_iret C h hr hQ (⟨⟨by decide, by decide⟩, tf1, of1, ⟨fun z_ => absurd z_ (by omega), fun _ => rfl⟩⟩) (Nat.le_of_ble_eq_true rfl) (Nat.le_of_ble_eq_true rfl) dX11_turned_45
  · have c13 : r6.toInt ≠ 0 := fun z_ => c9 (Int32.toInt_inj.mp z_)
    have i14 : iv r6 1 1 := iv_Nl c13 ir6 (by decide)
    obtain ⟨i15, i16⟩ := cnr6 c13
    refine lv_iload_n hx hb dX11_turned_13 rfl (lv_at hl 2 rfl) ?_
    refine lv_iload_n hx hb dX11_turned_14 rfl (lv_at hl 3 rfl) ?_
    refine k_i (r_S C h hl (As := [.int u2, .int u3]) (rest := []) (s_X11_isFieldX l D G b0 τ f1 tf1 u2 hu2 u3 hu3) mk_X11_isField w_1869 w_1870 w_1871 ⟨Nat.le_of_ble_eq_true rfl, Nat.le_of_ble_eq_true rfl⟩ rfl (Nat.le_of_ble_eq_true rfl) ⟨Nat.le_of_ble_eq_true rfl, Nat.le_of_ble_eq_true rfl⟩ rfl dX11_turned_15) h (fun r17 f18 H locs p19 h => ?_)
    obtain ⟨ir17, tf18, ogf18, cnr17, czr17⟩ := p19
    have egf18 := Fr.nil2 ogf18
    subst egf18
    refine lv_if_eq (tgt := 44) hx hb dX11_turned_18 (by decide) (fun c20 => ?_) (fun c20 => ?_)
    · have c21 : r17.toInt = 0 := congrArg Int32.toInt c20
      have i22 : iv r17 0 0 := iv_Q c21 ir17 (iv_k (x := 0) (k := 0) rfl) (by decide)
      have i23 := czr17 c21
      refine lv_iconst (v := -1) hx hb dX11_turned_44 (by decide) ?_
      exact u_iret C h hr hQ (⟨⟨by decide, by decide⟩, tf1, of1, ⟨fun z_ => absurd z_ (by omega), fun _ => rfl⟩⟩) (Nat.le_of_ble_eq_true rfl) (Nat.le_of_ble_eq_true rfl) dX11_turned_45
    · have c24 : r17.toInt ≠ 0 := fun z_ => c20 (Int32.toInt_inj.mp z_)
      have i25 : iv r17 1 1 := iv_Nl c24 ir17 (by decide)
      obtain ⟨i26, i27⟩ := cnr17 c24
      refine lv_iload hx hb dX11_turned_21 (lv_at hl 4 rfl) ?_
      refine lv_i2l hx hb dX11_turned_23 rfl (i_topL hu4 (fun w28 ew28 mw28 iw28 => ?_))
      refine lv_lconst (v := 0) hx hb dX11_turned_24 (by decide) ?_
      refine lv_lconst (v := 1) hx hb dX11_turned_25 (by decide) ?_
      refine k_i (r_S C h hl (As := [.long w28, .long 0, .long 1]) (rest := []) (s_X11_isInX l D G b0 τ f1 tf1 w28 0 1) mk_X11_isIn w_1624 w_1625 w_1626 ⟨Nat.le_of_ble_eq_true rfl, Nat.le_of_ble_eq_true rfl⟩ rfl (Nat.le_of_ble_eq_true rfl) ⟨Nat.le_of_ble_eq_true rfl, Nat.le_of_ble_eq_true rfl⟩ rfl dX11_turned_26) h (fun r29 f30 H locs p31 h => ?_)
      have n32 : (0 : Int64).toInt = 0 := rfl
      have n33 : (1 : Int64).toInt = 1 := rfl
      obtain ⟨ir29, tf30, ogf30, cnr29, czr29⟩ := p31
      have egf30 := Fr.nil2 ogf30
      subst egf30
      refine lv_if_eq (tgt := 44) hx hb dX11_turned_29 (by decide) (fun c34 => ?_) (fun c34 => ?_)
      · have c35 : r29.toInt = 0 := congrArg Int32.toInt c34
        have i36 : iv r29 0 0 := iv_Q c35 ir29 (iv_k (x := 0) (k := 0) rfl) (by decide)
        have i37 := czr29 c35
        refine lv_iconst (v := -1) hx hb dX11_turned_44 (by decide) ?_
        exact u_iret C h hr hQ (⟨⟨by decide, by decide⟩, tf1, of1, ⟨fun z_ => absurd z_ (by omega), fun _ => rfl⟩⟩) (Nat.le_of_ble_eq_true rfl) (Nat.le_of_ble_eq_true rfl) dX11_turned_45
      · have c38 : r29.toInt ≠ 0 := fun z_ => c34 (Int32.toInt_inj.mp z_)
        have i39 : iv r29 1 1 := iv_Nl c38 ir29 (by decide)
        obtain ⟨i40, i41⟩ := cnr29 c38
        have i42 : iv u4 0 1 := ⟨by omega, by omega⟩
        refine lv_aload_n hx hb dX11_turned_32 rfl (lv_at hl 0 rfl) ?_
        refine lv_iload_n hx hb dX11_turned_33 rfl (lv_at hl 1 rfl) ?_
        refine lv_iload_n hx hb dX11_turned_34 rfl (lv_at hl 2 rfl) ?_
        refine lv_iload_n hx hb dX11_turned_35 rfl (lv_at hl 3 rfl) ?_
        refine lv_iload hx hb dX11_turned_36 (lv_at hl 4 rfl) ?_
        obtain ⟨_, r43⟩ := t_rec tf1 hu0 (by decide) wf_60
        refine k_i (r_V C h hl (As := [.int u1, .int u2, .int u3, .int u4]) (rest := []) (s_X11_turnsX l D G b0 τ f1 tf1 u0 hu0 u1 i15 u2 (iv_w i26 (by decide)) u3 (iv_w i27 (by decide)) u4 i42 bq hbq k2 rb k3) r43 (Cn := RX11) (T := TX11) (N := 32) rfl rfl mk_X11_turns w_1879 w_1881 w_71 w_1882 ⟨Nat.le_of_ble_eq_true rfl, Nat.le_of_ble_eq_true rfl⟩ rfl (Nat.le_of_ble_eq_true rfl) ⟨Nat.le_of_ble_eq_true rfl, Nat.le_of_ble_eq_true rfl⟩ rfl dX11_turned_38) h (fun r44 f45 H locs p46 h => ?_)
        obtain ⟨ir44, tf45, ogf45, x0r44⟩ := p46
        have egf45 := Fr.nil2 ogf45
        subst egf45
        refine lv_goto (tgt := 45) hx hb dX11_turned_41 (by decide) ?_
        exact u_iret C h hr hQ (⟨ir44, tf1, of1, ⟨fun _ => x0r44, fun z_ => absurd (by omega) z_⟩⟩) (Nat.le_of_ble_eq_true rfl) (Nat.le_of_ble_eq_true rfl) dX11_turned_45
