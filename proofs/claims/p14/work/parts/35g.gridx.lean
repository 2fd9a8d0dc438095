
abbrev rm_s_X10_isLengthX : Room := { frames := 1, cells := 0, slots := 0, locals := 22 }
set_option maxRecDepth 100000 in
set_option maxHeartbeats 4000000 in
theorem s_X10_isLengthX (l : Launch) (D : va_G) (G : Nat → Nat) (b0 : Nat) (τ : Nat → Nat) (f : hM) (t : TI G 9 τ f) (u0 : Int32) (hu0 : iv u0 (-2147483648) 2147483647) : mI l yX10_isLength cX10_isLength 1 (.boolean) rm_s_X10_isLengthX D G b0 f [.int u0] (fun r f1 => iv r 0 1 ∧ TI G 9 τ f1 ∧ Fr [] τ f f1 ∧ (r.toInt ≠ 0 → iv u0 0 60) ∧ (r.toInt = 0 → u0.toInt < 0 ∨ 60 < u0.toInt)) := by
  refine met2 (own := RX10) (by decide) rfl (Nat.le_of_ble_eq_true rfl) ?_
  intro p e s m args below meth c ls Q hQ C hr hini hl h
  have hl : lv_has ls 1 [(0, .int u0)] := hl
  obtain ⟨hx, hb, hml, hown, hts, hE0, hlk⟩ := id C
  have o := Fr.rf [] τ f
  refine lv_iload_n hx hb dX10_isLength_0 rfl (lv_at hl 0 rfl) ?_
  refine lv_iconst (v := 0) hx hb dX10_isLength_1 (by decide) ?_
  refine lv_bipush (v := 60) hx hb dX10_isLength_2 (by decide) ?_
  refine k_i (r_S C h hl (As := [.int u0, .int 0, .int 60]) (rest := []) (s_X10_within l D G b0 τ f t u0 hu0 0 (iv_w (iv_k (x := 0) (k := 0) rfl) (by decide)) 60 (iv_w (iv_k (x := 60) (k := 60) rfl) (by decide))) mk_X10_within w_425 w_426 w_427 ⟨Nat.le_of_ble_eq_true rfl, Nat.le_of_ble_eq_true rfl⟩ rfl (Nat.le_of_ble_eq_true rfl) ⟨Nat.le_of_ble_eq_true rfl, Nat.le_of_ble_eq_true rfl⟩ rfl dX10_isLength_4) h (fun r1 f2 H locs p3 h => ?_)
  have n4 : (0 : Int32).toInt = 0 := rfl
  have n5 : (60 : Int32).toInt = 60 := rfl
  obtain ⟨ir1, tf2, ogf2, cnr1, czr1⟩ := p3
  have egf2 := Fr.nil2 ogf2
  subst egf2
  exact u_zret C h hr hQ ir1 (⟨ir1, t, o, (by intro h_; have h9_ := cnr1 h_; omega), (by intro h_; have h9_ := czr1 h_; omega)⟩) (Nat.le_of_ble_eq_true rfl) (Nat.le_of_ble_eq_true rfl) dX10_isLength_7
abbrev rm_s_X10_isNearX : Room := { frames := 1, cells := 0, slots := 0, locals := 22 }
set_option maxRecDepth 100000 in
set_option maxHeartbeats 4000000 in
theorem s_X10_isNearX (l : Launch) (D : va_G) (G : Nat → Nat) (b0 : Nat) (τ : Nat → Nat) (f : hM) (t : TI G 9 τ f) (u0 : Int32) (hu0 : iv u0 (-2147483648) 2147483647) (u1 : Int32) (hu1 : iv u1 (-2147483648) 2147483647) : mI l yX10_isNear cX10_isNear 2 (.boolean) rm_s_X10_isNearX D G b0 f [.int u0, .int u1] (fun r f1 => iv r 0 1 ∧ TI G 9 τ f1 ∧ Fr [] τ f f1 ∧ (r.toInt ≠ 0 → iv u0 (-70) 70 ∧ iv u1 (-70) 70) ∧ (r.toInt = 0 → u0.toInt < -70 ∨ 70 < u0.toInt ∨ u1.toInt < -70 ∨ 70 < u1.toInt)) := by
  refine met2 (own := RX10) (by decide) rfl (Nat.le_of_ble_eq_true rfl) ?_
  intro p e s m args below meth c ls Q hQ C hr hini hl h
  have hl : lv_has ls 2 [(0, .int u0), (1, .int u1)] := hl
  obtain ⟨hx, hb, hml, hown, hts, hE0, hlk⟩ := id C
  have o := Fr.rf [] τ f
  refine lv_iload_n hx hb dX10_isNear_0 rfl (lv_at hl 0 rfl) ?_
  refine lv_bipush (v := -70) hx hb dX10_isNear_1 (by decide) ?_
  refine lv_bipush (v := 70) hx hb dX10_isNear_3 (by decide) ?_
  refine k_i (r_S C h hl (As := [.int u0, .int (-70), .int 70]) (rest := []) (s_X10_within l D G b0 τ f t u0 hu0 (-70) (iv_w (iv_k (x := (-70)) (k := (-70)) rfl) (by decide)) 70 (iv_w (iv_k (x := 70) (k := 70) rfl) (by decide))) mk_X10_within w_425 w_426 w_427 ⟨Nat.le_of_ble_eq_true rfl, Nat.le_of_ble_eq_true rfl⟩ rfl (Nat.le_of_ble_eq_true rfl) ⟨Nat.le_of_ble_eq_true rfl, Nat.le_of_ble_eq_true rfl⟩ rfl dX10_isNear_5) h (fun r1 f2 H locs p3 h => ?_)
  have n4 : (-70 : Int32).toInt = (-70) := rfl
  have n5 : (70 : Int32).toInt = 70 := rfl
  obtain ⟨ir1, tf2, ogf2, cnr1, czr1⟩ := p3
  have egf2 := Fr.nil2 ogf2
  subst egf2
  refine lv_if_eq (tgt := 26) hx hb dX10_isNear_8 (by decide) (fun c6 => ?_) (fun c6 => ?_)
  · have c7 : r1.toInt = 0 := congrArg Int32.toInt c6
    have i8 : iv r1 0 0 := iv_Q c7 ir1 (iv_k (x := 0) (k := 0) rfl) (by decide)
    have i9 := czr1 c7
    refine lv_iconst (v := 0) hx hb dX10_isNear_26 (by decide) ?_
    exact u_zret C h hr hQ ⟨by decide, by decide⟩ (⟨⟨by decide, by decide⟩, t, o, (fun h_ => absurd h_ (by decide)), (fun _ => (by omega))⟩) (Nat.le_of_ble_eq_true rfl) (Nat.le_of_ble_eq_true rfl) dX10_isNear_27
  · have c10 : r1.toInt ≠ 0 := fun z_ => c6 (Int32.toInt_inj.mp z_)
    have i11 : iv r1 1 1 := iv_Nl c10 ir1 (by decide)
    obtain ⟨i12, i13⟩ := cnr1 c10
    have i14 : iv u0 (-70) 70 := ⟨by omega, by omega⟩
    refine lv_iload_n hx hb dX10_isNear_11 rfl (lv_at hl 1 rfl) ?_
    refine lv_bipush (v := -70) hx hb dX10_isNear_12 (by decide) ?_
    refine lv_bipush (v := 70) hx hb dX10_isNear_14 (by decide) ?_
    refine k_i (r_S C h hl (As := [.int u1, .int (-70), .int 70]) (rest := []) (s_X10_within l D G b0 τ f t u1 hu1 (-70) (iv_w (iv_k (x := (-70)) (k := (-70)) rfl) (by decide)) 70 (iv_w (iv_k (x := 70) (k := 70) rfl) (by decide))) mk_X10_within w_425 w_426 w_427 ⟨Nat.le_of_ble_eq_true rfl, Nat.le_of_ble_eq_true rfl⟩ rfl (Nat.le_of_ble_eq_true rfl) ⟨Nat.le_of_ble_eq_true rfl, Nat.le_of_ble_eq_true rfl⟩ rfl dX10_isNear_16) h (fun r15 f16 H locs p17 h => ?_)
    have n18 : (-70 : Int32).toInt = (-70) := rfl
    have n19 : (70 : Int32).toInt = 70 := rfl
    obtain ⟨ir15, tf16, ogf16, cnr15, czr15⟩ := p17
    have egf16 := Fr.nil2 ogf16
    subst egf16
    refine lv_if_eq (tgt := 26) hx hb dX10_isNear_19 (by decide) (fun c20 => ?_) (fun c20 => ?_)
    · have c21 : r15.toInt = 0 := congrArg Int32.toInt c20
      have i22 : iv r15 0 0 := iv_Q c21 ir15 (iv_k (x := 0) (k := 0) rfl) (by decide)
      have i23 := czr15 c21
      refine lv_iconst (v := 0) hx hb dX10_isNear_26 (by decide) ?_
      exact u_zret C h hr hQ ⟨by decide, by decide⟩ (⟨⟨by decide, by decide⟩, t, o, (fun h_ => absurd h_ (by decide)), (fun _ => (by omega))⟩) (Nat.le_of_ble_eq_true rfl) (Nat.le_of_ble_eq_true rfl) dX10_isNear_27
    · have c24 : r15.toInt ≠ 0 := fun z_ => c20 (Int32.toInt_inj.mp z_)
      have i25 : iv r15 1 1 := iv_Nl c24 ir15 (by decide)
      obtain ⟨i26, i27⟩ := cnr15 c24
      have i28 : iv u1 (-70) 70 := ⟨by omega, by omega⟩
      refine lv_iconst (v := 1) hx hb dX10_isNear_22 (by decide) ?_
      refine lv_goto (tgt := 27) hx hb dX10_isNear_23 (by decide) ?_
      exact u_zret C h hr hQ ⟨by decide, by decide⟩ (⟨⟨by decide, by decide⟩, t, o, (fun _ => ⟨i14, i28⟩), (fun h_ => absurd h_ (by decide))⟩) (Nat.le_of_ble_eq_true rfl) (Nat.le_of_ble_eq_true rfl) dX10_isNear_27
abbrev rm_s_X10_atX : Room := { frames := 5, cells := 0, slots := 0, locals := 112 }
set_option maxRecDepth 100000 in
set_option maxHeartbeats 4000000 in
theorem s_X10_atX (l : Launch) (D : va_G) (G : Nat → Nat) (b0 : Nat) (τ : Nat → Nat) (f : hM) (t : TI G 9 τ f) (u0 : Nat) (hu0 : τ u0 = 10) (u1 : Int32) (hu1 : iv u1 (-2147483648) 2147483647) (u2 : Int32) (hu2 : iv u2 (-2147483648) 2147483647) (u3 : Int32) (hu3 : iv u3 (-2147483648) 2147483647) (u4 : Int32) (hu4 : iv u4 (-2147483648) 2147483647) (u5 : Int32) (hu5 : iv u5 (-2147483648) 2147483647) (bo : Nat) (hbo : τ bo = 12) (k_u0_1 : atp f u0 (fd 1 (.ref bo))) (sn : Nat) (hsn : τ sn = 15) (k_bo_1 : atp f bo (fd 1 (.ref sn))) (qn : Nat) (hqn : τ qn = 4) (k_sn_0 : atp f sn (fd 0 (.ref qn))) (sz : Int32) (hsz : iv sz 0 8) (k_sn_1 : atp f sn (fd 1 (.int sz))) (gq rq mq : Nat) (hgq : τ gq = 20) (kq2 : atp f u0 (fd 2 (.ref gq))) (hGJ : GJ τ f gq rq mq) (rn : Nat → Option Nat) (hRqn : atp f qn (eqr G 4 8 rn)) (bk : Nat → Int32) (hb9 : ∀ k : Nat, k < 80 → iv (bk k) 0 9) (hSO : ∀ j : Nat, (j : Int) < sz.toInt → ∃ q, rn j = some q ∧ SO G τ f q (fun k => bk (10 * j + k)))  : mI l yX10_at cX10_at 7 (.int) rm_s_X10_atX D G b0 f [.ref u0, .int u1, .int u2, .int u3, .int u4, .int u5] (fun r f1 => iv r (-2147483648) 2147483647 ∧ TI G 9 τ f1 ∧ Fr [20, 21, 22, 23, 24, 25, 20001, 20002, 20007, 20008, 20009, 20010, 20011, 22001, 22002, 22003, 22004, 23001, 23002, 23003, 23004] τ f f1 ∧ ((((0 ≤ u1.toInt ∧ u1.toInt ≤ 2) ∧ (0 ≤ u2.toInt ∧ u2.toInt < sz.toInt) ∧ (0 ≤ u3.toInt ∧ u3.toInt ≤ 60) ∧ (-70 ≤ u4.toInt ∧ u4.toInt ≤ 70) ∧ -70 ≤ u5.toInt ∧ u5.toInt ≤ 70) → r.toInt = (Ag bk u2.toInt u1.toInt 1 u3.toInt.toNat u4.toInt u5.toInt).toInt) ∧ (¬ ((0 ≤ u1.toInt ∧ u1.toInt ≤ 2) ∧ (0 ≤ u2.toInt ∧ u2.toInt < sz.toInt) ∧ (0 ≤ u3.toInt ∧ u3.toInt ≤ 60) ∧ (-70 ≤ u4.toInt ∧ u4.toInt ≤ 70) ∧ -70 ≤ u5.toInt ∧ u5.toInt ≤ 70) → r.toInt = -1)) ∧ GJ τ f1 gq rq mq) := by
  refine met2 (own := RX10) (by decide) rfl (Nat.le_of_ble_eq_true rfl) ?_
  intro p e s m args below meth c ls Q hQ C hr hini hl h
  have hl : lv_has ls 7 [(0, .ref u0), (1, .int u1), (2, .int u2), (3, .int u3), (4, .int u4), (5, .int u5)] := hl
  obtain ⟨hx, hb, hml, hown, hts, hE0, hlk⟩ := id C
  have o := Fr.rf [20, 21, 22, 23, 24, 25, 20001, 20002, 20007, 20008, 20009, 20010, 20011, 22001, 22002, 22003, 22004, 23001, 23002, 23003, 23004] τ f
  refine lv_aload_n hx hb dX10_at_0 rfl (lv_at hl 0 rfl) ?_
  refine t_getfd C h t hu0 (by decide) wf_10 (v := .ref bo) k_u0_1 fl_X10_19 dX10_at_1 ?_
  refine lv_iload_n hx hb dX10_at_4 rfl (lv_at hl 2 rfl) ?_
  obtain ⟨_, r1⟩ := t_rec t hbo (by decide) wf_12
  refine k_q (r_V C h hl (As := [.int u2]) (rest := []) (s_X0_findX l D G b0 τ f t bo hbo u2 hu2 sn hsn k_bo_1 qn hqn k_sn_0 sz hsz k_sn_1 rn hRqn) r1 (Cn := RX0) (T := TX0) (N := 6) rfl rfl mk_X0_find w_594 w_595 w_596 w_597 ⟨Nat.le_of_ble_eq_true rfl, Nat.le_of_ble_eq_true rfl⟩ rfl (Nat.le_of_ble_eq_true rfl) ⟨Nat.le_of_ble_eq_true rfl, Nat.le_of_ble_eq_true rfl⟩ rfl dX10_at_5) h (fun r2 f3 H locs p4 h => ?_)
  obtain ⟨qr2, tf3, ogf3, x0r2⟩ := p4
  have egf3 := Fr.nil2 ogf3
  subst egf3
  have tr2 := qr2
  refine lv_astoreO (lv' := [(6, va_rf r2), (0, .ref u0), (1, .int u1), (2, .int u2), (3, .int u3), (4, .int u4), (5, .int u5)]) hx hb dX10_at_8 hl (by decide) rfl (fun ls hl => ?_)
  refine lv_aloadO hx hb dX10_at_10 (lv_at hl 0 rfl) ?_
  rcases va_rfc r2 with eq6 | ⟨q6, eq6⟩
  · subst eq6
    have nkr2 : ¬ (0 ≤ u2.toInt ∧ u2.toInt < sz.toInt) := fun z_ => by rw [if_pos z_] at x0r2; obtain ⟨q_, h_, -⟩ := hSO u2.toInt.toNat (by omega); rw [h_] at x0r2; cases x0r2
    have hl : lv_has ls 7 [(6, .null), (0, .ref u0), (1, .int u1), (2, .int u2), (3, .int u3), (4, .int u4), (5, .int u5)] := hl
    show W _ _ _ _ _ _ _ _ _ _ _ _ _ _ _ (F0 m 12 ls [.null])
    refine lv_ifnullN (tgt := 41) hx hb dX10_at_12 (by decide) ?_
    refine lv_iconst (v := -1) hx hb dX10_at_41 (by decide) ?_
    exact u_iret C h hr hQ (⟨⟨by decide, by decide⟩, t, o, ⟨fun z_ => absurd z_ (by omega), fun _ => rfl⟩, hGJ⟩) (Nat.le_of_ble_eq_true rfl) (Nat.le_of_ble_eq_true rfl) dX10_at_42
  · subst eq6
    have tq6 : τ q6 = 1 := tr2 _ rfl
    have okr2 : (0 ≤ u2.toInt ∧ u2.toInt < sz.toInt) := by
      by_cases z_ : (0 ≤ u2.toInt ∧ u2.toInt < sz.toInt)
      · exact z_
      · rw [if_neg z_] at x0r2; cases x0r2
    rw [if_pos okr2] at x0r2
    obtain ⟨q_, h_, -, wqS1, wwS1, twS1, kwS1, krS1, hwS1, kxS1, kyS1⟩ := hSO u2.toInt.toNat (by omega)
    rw [← x0r2] at h_; cases h_
    have hwS1 : ∀ k : Nat, k < 8 → wwS1 k = bk (10 * u2.toInt.toNat + k) := hwS1
    have kxS1 : atp f q6 (fd 1 (.int (bk (10 * u2.toInt.toNat + 8)))) := kxS1
    have kyS1 : atp f q6 (fd 2 (.int (bk (10 * u2.toInt.toNat + 9)))) := kyS1
    obtain ⟨sxS1, esxS1, isxS1⟩ : ∃ z_ : Int32, z_ = bk (10 * u2.toInt.toNat + 8) ∧ iv z_ 0 9 := ⟨_, rfl, hb9 _ (by omega)⟩
    rw [← esxS1] at kxS1
    obtain ⟨syS1, esyS1, isyS1⟩ : ∃ z_ : Int32, z_ = bk (10 * u2.toInt.toNat + 9) ∧ iv z_ 0 9 := ⟨_, rfl, hb9 _ (by omega)⟩
    rw [← esyS1] at kyS1
    have hl : lv_has ls 7 [(6, .ref q6), (0, .ref u0), (1, .int u1), (2, .int u2), (3, .int u3), (4, .int u4), (5, .int u5)] := hl
    show W _ _ _ _ _ _ _ _ _ _ _ _ _ _ _ (F0 m 12 ls [.ref q6])
    refine lv_ifnull hx hb dX10_at_12 ?_
    refine lv_iload_n hx hb dX10_at_15 rfl (lv_at hl 2 rfl) ?_
    refine lv_iconst (v := 0) hx hb dX10_at_16 (by decide) ?_
    refine lv_iconst (v := 2) hx hb dX10_at_17 (by decide) ?_
    refine k_i (r_S C h hl (As := [.int u1, .int 0, .int 2]) (rest := []) (s_X10_within l D G b0 τ f t u1 hu1 0 (iv_w (iv_k (x := 0) (k := 0) rfl) (by decide)) 2 (iv_w (iv_k (x := 2) (k := 2) rfl) (by decide))) mk_X10_within w_425 w_426 w_427 ⟨Nat.le_of_ble_eq_true rfl, Nat.le_of_ble_eq_true rfl⟩ rfl (Nat.le_of_ble_eq_true rfl) ⟨Nat.le_of_ble_eq_true rfl, Nat.le_of_ble_eq_true rfl⟩ rfl dX10_at_18) h (fun r7 f8 H locs p9 h => ?_)
    have n10 : (0 : Int32).toInt = 0 := rfl
    have n11 : (2 : Int32).toInt = 2 := rfl
    obtain ⟨ir7, tf8, ogf8, cnr7, czr7⟩ := p9
    have egf8 := Fr.nil2 ogf8
    subst egf8
    refine lv_if_eq (tgt := 41) hx hb dX10_at_21 (by decide) (fun c12 => ?_) (fun c12 => ?_)
    · have c13 : r7.toInt = 0 := congrArg Int32.toInt c12
      have i14 : iv r7 0 0 := iv_Q c13 ir7 (iv_k (x := 0) (k := 0) rfl) (by decide)
      have i15 := czr7 c13
      refine lv_iconst (v := -1) hx hb dX10_at_41 (by decide) ?_
      exact u_iret C h hr hQ (⟨⟨by decide, by decide⟩, t, o, ⟨fun z_ => absurd z_ (by omega), fun _ => rfl⟩, hGJ⟩) (Nat.le_of_ble_eq_true rfl) (Nat.le_of_ble_eq_true rfl) dX10_at_42
    · have c16 : r7.toInt ≠ 0 := fun z_ => c12 (Int32.toInt_inj.mp z_)
      have i17 : iv r7 1 1 := iv_Nl c16 ir7 (by decide)
      obtain ⟨i18, i19⟩ := cnr7 c16
      have i20 : iv u1 0 2 := ⟨by omega, by omega⟩
      refine lv_iload_n hx hb dX10_at_24 rfl (lv_at hl 4 rfl) ?_
      refine k_i (r_S C h hl (As := [.int u3]) (rest := []) (s_X10_isLengthX l D G b0 τ f t u3 hu3) mk_X10_isLength w_653 w_654 w_655 ⟨Nat.le_of_ble_eq_true rfl, Nat.le_of_ble_eq_true rfl⟩ rfl (Nat.le_of_ble_eq_true rfl) ⟨Nat.le_of_ble_eq_true rfl, Nat.le_of_ble_eq_true rfl⟩ rfl dX10_at_25) h (fun r21 f22 H locs p23 h => ?_)
      obtain ⟨ir21, tf22, ogf22, cnr21, czr21⟩ := p23
      have egf22 := Fr.nil2 ogf22
      subst egf22
      refine lv_if_eq (tgt := 41) hx hb dX10_at_28 (by decide) (fun c24 => ?_) (fun c24 => ?_)
      · have c25 : r21.toInt = 0 := congrArg Int32.toInt c24
        have i26 : iv r21 0 0 := iv_Q c25 ir21 (iv_k (x := 0) (k := 0) rfl) (by decide)
        have i27 := czr21 c25
        refine lv_iconst (v := -1) hx hb dX10_at_41 (by decide) ?_
        exact u_iret C h hr hQ (⟨⟨by decide, by decide⟩, t, o, ⟨fun z_ => absurd z_ (by omega), fun _ => rfl⟩, hGJ⟩) (Nat.le_of_ble_eq_true rfl) (Nat.le_of_ble_eq_true rfl) dX10_at_42
      · have c28 : r21.toInt ≠ 0 := fun z_ => c24 (Int32.toInt_inj.mp z_)
        have i29 : iv r21 1 1 := iv_Nl c28 ir21 (by decide)
        have i30 := cnr21 c28
        refine lv_iload hx hb dX10_at_31 (lv_at hl 5 rfl) ?_
        refine lv_iload hx hb dX10_at_33 (lv_at hl 6 rfl) ?_
        refine k_i (r_S C h hl (As := [.int u4, .int u5]) (rest := []) (s_X10_isNearX l D G b0 τ f t u4 hu4 u5 hu5) mk_X10_isNear w_656 w_657 w_658 ⟨Nat.le_of_ble_eq_true rfl, Nat.le_of_ble_eq_true rfl⟩ rfl (Nat.le_of_ble_eq_true rfl) ⟨Nat.le_of_ble_eq_true rfl, Nat.le_of_ble_eq_true rfl⟩ rfl dX10_at_35) h (fun r31 f32 H locs p33 h => ?_)
        obtain ⟨ir31, tf32, ogf32, cnr31, czr31⟩ := p33
        have egf32 := Fr.nil2 ogf32
        subst egf32
        refine lv_if_ne (tgt := 43) hx hb dX10_at_38 (by decide) (fun c34 => ?_) (fun c34 => ?_)
        · have c35 : r31.toInt ≠ 0 := fun z_ => c34 (Int32.toInt_inj.mp z_)
          have i36 : iv r31 1 1 := iv_Nl c35 ir31 (by decide)
          obtain ⟨i37, i38⟩ := cnr31 c35
          refine lv_aload_n hx hb dX10_at_43 rfl (lv_at hl 1 rfl) ?_
          refine t_getfd C h t hu0 (by decide) wf_10 (v := .ref gq) kq2 fl_X10_26 dX10_at_44 ?_
          refine lv_aload hx hb dX10_at_47 (lv_at hl 0 rfl) ?_
          refine lv_iconst (v := 0) hx hb dX10_at_49 (by decide) ?_
          refine lv_iload_n hx hb dX10_at_50 rfl (lv_at hl 2 rfl) ?_
          refine lv_iload_n hx hb dX10_at_51 rfl (lv_at hl 4 rfl) ?_
          obtain ⟨_, r42⟩ := t_rec t hgq (by decide) wf_20
          refine k_v (r_V C h hl (As := [.ref q6, .int 0, .int u1, .int u3]) (rest := []) (s_X2_go l D G b0 τ f t gq hgq q6 tq6 0 (iv_w (iv_k (x := 0) (k := 0) rfl) (by decide)) u1 (iv_w i20 (by decide)) u3 i30 wqS1 twS1 kwS1 sxS1 isxS1 kxS1 syS1 isyS1 kyS1 rq mq hGJ wwS1 krS1 bk u2.toInt (inrow_of hwS1 esxS1 esyS1 hb9 (by omega))) r42 (Cn := RX2) (T := TX2) (N := 11) rfl rfl mk_X2_go w_659 w_660 w_661 w_662 ⟨Nat.le_of_ble_eq_true rfl, Nat.le_of_ble_eq_true rfl⟩ rfl (Nat.le_of_ble_eq_true rfl) ⟨Nat.le_of_ble_eq_true rfl, Nat.le_of_ble_eq_true rfl⟩ rfl dX10_at_52) h (fun f44 H locs p45 h => ?_)
          have n46 : (0 : Int32).toInt = 0 := rfl
          obtain ⟨tf44, ogf44, x0r43, gjf44⟩ := p45
          have of44 : Fr [20, 21, 22, 23, 24, 25, 20001, 20002, 20007, 20008, 20009, 20010, 20011, 22001, 22002, 22003, 22004, 23001, 23002, 23003, 23004] τ f f44 := Fr.tr o ogf44 (by decide) (by decide)
          have k47 := atp.fr k_u0_1 ogf44 hu0 (by decide)
          have k48 := atp.fr k_bo_1 ogf44 hbo (by decide)
          have k49 := atp.fr k_sn_0 ogf44 hsn (by decide)
          have k50 := atp.fr k_sn_1 ogf44 hsn (by decide)
          have k51 := atp.fr hRqn ogf44 hqn (by decide)
          have k52 := atp.fr kq2 ogf44 hu0 (by decide)
          have k53 := atp.fr kwS1 ogf44 tq6 (by decide)
          have k54 := atp.fr krS1 ogf44 twS1 (by decide)
          have k55 := atp.fr kxS1 ogf44 tq6 (by decide)
          have k56 := atp.fr kyS1 ogf44 tq6 (by decide)
          refine lv_aload_n hx hb dX10_at_55 rfl (lv_at hl 1 rfl) ?_
          refine t_getfd C h tf44 hu0 (by decide) wf_10 (v := .ref gq) k52 fl_X10_26 dX10_at_56 ?_
          refine lv_iload hx hb dX10_at_59 (lv_at hl 5 rfl) ?_
          refine lv_iload hx hb dX10_at_61 (lv_at hl 6 rfl) ?_
          obtain ⟨_, r57⟩ := t_rec tf44 hgq (by decide) wf_20
          refine k_l (r_V C h hl (As := [.int u4, .int u5]) (rest := []) (s_X2_seenX l D G b0 τ f44 tf44 gq hgq u4 (iv_w i37 (by decide)) u5 (iv_w i38 (by decide)) rq mq bk u2.toInt (fun x_ y_ => decide (insd (u1 : Int32).toInt x_ y_)) (0 : Int32).toInt (u3 : Int32).toInt.toNat x0r43) r57 (Cn := RX2) (T := TX2) (N := 11) rfl rfl mk_X2_seen w_709 w_710 w_711 w_712 ⟨Nat.le_of_ble_eq_true rfl, Nat.le_of_ble_eq_true rfl⟩ rfl (Nat.le_of_ble_eq_true rfl) ⟨Nat.le_of_ble_eq_true rfl, Nat.le_of_ble_eq_true rfl⟩ rfl dX10_at_63) h (fun r58 f59 H locs p60 h => ?_)
          obtain ⟨tf59, ogf59, x0r58⟩ := p60
          have egf59 := Fr.nil2 ogf59
          subst egf59
          refine lv_l2i hx hb dX10_at_66 rfl (i_top (iv_any _) (fun z61 ez61 iz61 => ?_))
          exact u_iret C h hr hQ (⟨iz61, tf44, of44, ⟨fun _ => at_val (bk_hb hb9 (by omega)).1 ez61 x0r58, fun z_ => absurd (by omega) z_⟩, gjf44⟩) (Nat.le_of_ble_eq_true rfl) (Nat.le_of_ble_eq_true rfl) dX10_at_67
        · have c39 : r31.toInt = 0 := congrArg Int32.toInt c34
          have i40 : iv r31 0 0 := iv_Q c39 ir31 (iv_k (x := 0) (k := 0) rfl) (by decide)
          have i41 := czr31 c39
          refine lv_iconst (v := -1) hx hb dX10_at_41 (by decide) ?_
          exact u_iret C h hr hQ (⟨⟨by decide, by decide⟩, t, o, ⟨fun z_ => absurd z_ (by omega), fun _ => rfl⟩, hGJ⟩) (Nat.le_of_ble_eq_true rfl) (Nat.le_of_ble_eq_true rfl) dX10_at_42
