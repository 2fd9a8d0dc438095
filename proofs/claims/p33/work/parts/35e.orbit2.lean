
abbrev rm_s_X10_groupX : Room := { frames := 5, cells := 0, slots := 0, locals := 121 }
set_option maxRecDepth 100000 in
set_option maxHeartbeats 4000000 in
theorem s_X10_groupX (l : Launch) (D : va_G) (G : Nat → Nat) (b0 : Nat) (τ : Nat → Nat) (f : hM) (t : TI G 9 τ f) (u0 : Nat) (hu0 : τ u0 = 10) (u1 : Int32) (hu1 : iv u1 (-2147483648) 2147483647) (bo : Nat) (hbo : τ bo = 12) (k_u0_1 : atp f u0 (fd 1 (.ref bo))) (sn : Nat) (hsn : τ sn = 15) (k_bo_1 : atp f bo (fd 1 (.ref sn))) (qn : Nat) (hqn : τ qn = 4) (k_sn_0 : atp f sn (fd 0 (.ref qn))) (sz : Int32) (hsz : iv sz 0 8) (k_sn_1 : atp f sn (fd 1 (.int sz))) (tu : Nat) (htu : τ tu = 35) (k_u0_4 : atp f u0 (fd 4 (.ref tu))) (xq : Nat) (hxq : τ xq = 36) (k_tu_0 : atp f tu (fd 0 (.ref xq))) (yq : Nat) (hyq : τ yq = 80) (k_tu_1 : atp f tu (fd 1 (.ref yq))) (rn : Nat → Option Nat) (hRqn : atp f qn (eqr G 4 8 rn)) (rx : Nat → Int32) (hRxq : atp f xq (eqc (.inl (G 1, 40, .inl rx)))) (ry : Nat → Int32) (hRyq : atp f yq (eqc (.inl (G 1, 40, .inl ry)))) (bk : Nat → Int32) (hb9 : ∀ k : Nat, k < 80 → iv (bk k) 0 9) (hSO : ∀ j : Nat, (j : Int) < sz.toInt → ∃ q, rn j = some q ∧ SO G τ f q (fun k => bk (10 * j + k)))  : mI l yX10_group cX10_group 3 (.int) rm_s_X10_groupX D G b0 f [.ref u0, .int u1] (fun r f1 => iv r (-2) 40 ∧ TI G 9 τ f1 ∧ Fr [36, 80] τ f f1 ∧ (((0 ≤ u1.toInt ∧ u1.toInt < sz.toInt) → r.toInt = GRP (fun k : Int => (bk (10 * u1.toInt + k).toNat).toInt)) ∧ (¬ (0 ≤ u1.toInt ∧ u1.toInt < sz.toInt) → r.toInt = -2))) := by
  refine met2 (own := RX10) (by decide) rfl (Nat.le_of_ble_eq_true rfl) ?_
  intro p e s m args below meth c ls Q hQ C hr hini hl h
  have hl : lv_has ls 3 [(0, .ref u0), (1, .int u1)] := hl
  obtain ⟨hx, hb, hml, hown, hts, hE0, hlk⟩ := id C
  have o := Fr.rf [36, 80] τ f
  refine lv_aload_n hx hb dX10_group_0 rfl (lv_at hl 0 rfl) ?_
  refine t_getfd C h t hu0 (by decide) wf_10 (v := .ref bo) k_u0_1 fl_X10_19 dX10_group_1 ?_
  refine lv_iload_n hx hb dX10_group_4 rfl (lv_at hl 1 rfl) ?_
  obtain ⟨_, r1⟩ := t_rec t hbo (by decide) wf_12
  refine k_q (r_V C h hl (As := [.int u1]) (rest := []) (s_X0_findX l D G b0 τ f t bo hbo u1 hu1 sn hsn k_bo_1 qn hqn k_sn_0 sz hsz k_sn_1 rn hRqn) r1 (Cn := RX0) (T := TX0) (N := 6) rfl rfl mk_X0_find w_594 w_595 w_596 w_597 ⟨Nat.le_of_ble_eq_true rfl, Nat.le_of_ble_eq_true rfl⟩ rfl (Nat.le_of_ble_eq_true rfl) ⟨Nat.le_of_ble_eq_true rfl, Nat.le_of_ble_eq_true rfl⟩ rfl dX10_group_5) h (fun r2 f3 H locs p4 h => ?_)
  obtain ⟨qr2, tf3, ogf3, x0r2⟩ := p4
  have egf3 := Fr.nil2 ogf3
  subst egf3
  have tr2 := qr2
  refine lv_astore_nO (lv' := [(2, va_rf r2), (0, .ref u0), (1, .int u1)]) hx hb dX10_group_8 rfl hl (by decide) rfl (fun ls hl => ?_)
  refine lv_aload_nO hx hb dX10_group_9 rfl (lv_at hl 0 rfl) ?_
  rcases va_rfc r2 with eq6 | ⟨q6, eq6⟩
  · subst eq6
    have nkr2 : ¬ (0 ≤ u1.toInt ∧ u1.toInt < sz.toInt) := fun z_ => by rw [if_pos z_] at x0r2; obtain ⟨q_, h_, -⟩ := hSO u1.toInt.toNat (by omega); rw [h_] at x0r2; cases x0r2
    have hl : lv_has ls 3 [(2, .null), (0, .ref u0), (1, .int u1)] := hl
    show W _ _ _ _ _ _ _ _ _ _ _ _ _ _ _ (F0 m 10 ls [.null])
    refine lv_ifnonnullN hx hb dX10_group_10 ?_
    refine lv_bipush (v := -2) hx hb dX10_group_13 (by decide) ?_
    refine lv_goto (tgt := 26) hx hb dX10_group_15 (by decide) ?_
    exact u_iret C h hr hQ (⟨⟨by decide, by decide⟩, t, o, ⟨fun z_ => absurd z_ (by omega), fun _ => rfl⟩⟩) (Nat.le_of_ble_eq_true rfl) (Nat.le_of_ble_eq_true rfl) dX10_group_26
  · subst eq6
    have tq6 : τ q6 = 1 := tr2 _ rfl
    have okr2 : (0 ≤ u1.toInt ∧ u1.toInt < sz.toInt) := by
      by_cases z_ : (0 ≤ u1.toInt ∧ u1.toInt < sz.toInt)
      · exact z_
      · rw [if_neg z_] at x0r2; cases x0r2
    rw [if_pos okr2] at x0r2
    obtain ⟨q_, h_, -, wqS1, wwS1, twS1, kwS1, krS1, hwS1, kxS1, kyS1⟩ := hSO u1.toInt.toNat (by omega)
    rw [← x0r2] at h_; cases h_
    have hwS1 : ∀ k : Nat, k < 8 → wwS1 k = bk (10 * u1.toInt.toNat + k) := hwS1
    have kxS1 : atp f q6 (fd 1 (.int (bk (10 * u1.toInt.toNat + 8)))) := kxS1
    have kyS1 : atp f q6 (fd 2 (.int (bk (10 * u1.toInt.toNat + 9)))) := kyS1
    obtain ⟨sxS1, esxS1, isxS1⟩ : ∃ z_ : Int32, z_ = bk (10 * u1.toInt.toNat + 8) ∧ iv z_ 0 9 := ⟨_, rfl, hb9 _ (by omega)⟩
    rw [← esxS1] at kxS1
    obtain ⟨syS1, esyS1, isyS1⟩ : ∃ z_ : Int32, z_ = bk (10 * u1.toInt.toNat + 9) ∧ iv z_ 0 9 := ⟨_, rfl, hb9 _ (by omega)⟩
    rw [← esyS1] at kyS1
    have hl : lv_has ls 3 [(2, .ref q6), (0, .ref u0), (1, .int u1)] := hl
    show W _ _ _ _ _ _ _ _ _ _ _ _ _ _ _ (F0 m 10 ls [.ref q6])
    refine lv_ifnonnull (tgt := 18) hx hb dX10_group_10 (by decide) ?_
    refine lv_aload_n hx hb dX10_group_18 rfl (lv_at hl 1 rfl) ?_
    refine t_getfd C h t hu0 (by decide) wf_10 (v := .ref tu) k_u0_4 fl_X10_40 dX10_group_19 ?_
    refine lv_aload_n hx hb dX10_group_22 rfl (lv_at hl 0 rfl) ?_
    obtain ⟨_, r7⟩ := t_rec t htu (by decide) wf_35
    refine k_i (r_V C h hl (As := [.ref q6]) (rest := []) (s_X8_greatestX l D G b0 τ f t tu htu q6 tq6 wqS1 twS1 kwS1 xq hxq k_tu_0 yq hyq k_tu_1 wwS1 krS1 rx hRxq ry hRyq) r7 (Cn := RX8) (T := TX8) (N := 2) rfl rfl mk_X8_greatest w_980 w_981 w_982 w_983 ⟨Nat.le_of_ble_eq_true rfl, Nat.le_of_ble_eq_true rfl⟩ rfl (Nat.le_of_ble_eq_true rfl) ⟨Nat.le_of_ble_eq_true rfl, Nat.le_of_ble_eq_true rfl⟩ rfl dX10_group_23) h (fun r8 f9 H locs p10 h => ?_)
    obtain ⟨ir8, tf9, ogf9, x0r8⟩ := p10
    have of9 : Fr [36, 80] τ f f9 := Fr.tr o ogf9 (by decide) (by decide)
    have k11 := atp.fr k_u0_1 ogf9 hu0 (by decide)
    have k12 := atp.fr k_bo_1 ogf9 hbo (by decide)
    have k13 := atp.fr k_sn_0 ogf9 hsn (by decide)
    have k14 := atp.fr k_sn_1 ogf9 hsn (by decide)
    have k15 := atp.fr k_u0_4 ogf9 hu0 (by decide)
    have k16 := atp.fr k_tu_0 ogf9 htu (by decide)
    have k17 := atp.fr k_tu_1 ogf9 htu (by decide)
    have k18 := atp.fr hRqn ogf9 hqn (by decide)
    have k19 := atp.fr kwS1 ogf9 tq6 (by decide)
    have k20 := atp.fr krS1 ogf9 twS1 (by decide)
    have k21 := atp.fr kxS1 ogf9 tq6 (by decide)
    have k22 := atp.fr kyS1 ogf9 tq6 (by decide)
    exact u_iret C h hr hQ (⟨(iv_w ir8 (by decide)), tf9, of9, ⟨fun _ => (by rw [x0r8]; exact GRP_c (wf_bf hwS1 (by omega))), fun z_ => absurd (by omega) z_⟩⟩) (Nat.le_of_ble_eq_true rfl) (Nat.le_of_ble_eq_true rfl) dX10_group_26
abbrev rm_s_X10_sumX : Room := { frames := 4, cells := 0, slots := 0, locals := 97 }
set_option maxRecDepth 100000 in
set_option maxHeartbeats 4000000 in
theorem s_X10_sumX (l : Launch) (D : va_G) (G : Nat → Nat) (b0 : Nat) (τ : Nat → Nat) (f : hM) (t : TI G 9 τ f) (u0 : Nat) (hu0 : τ u0 = 10) (u1 : Int32) (hu1 : iv u1 (-2147483648) 2147483647) (u2 : Int32) (hu2 : iv u2 (-2147483648) 2147483647) (u3 : Int32) (hu3 : iv u3 (-2147483648) 2147483647) (bo : Nat) (hbo : τ bo = 12) (k_u0_1 : atp f u0 (fd 1 (.ref bo))) (sn : Nat) (hsn : τ sn = 15) (k_bo_1 : atp f bo (fd 1 (.ref sn))) (qn : Nat) (hqn : τ qn = 4) (k_sn_0 : atp f sn (fd 0 (.ref qn))) (sz : Int32) (hsz : iv sz 0 8) (k_sn_1 : atp f sn (fd 1 (.int sz))) (tu : Nat) (htu : τ tu = 35) (k_u0_4 : atp f u0 (fd 4 (.ref tu))) (xq : Nat) (hxq : τ xq = 36) (k_tu_0 : atp f tu (fd 0 (.ref xq))) (yq : Nat) (hyq : τ yq = 80) (k_tu_1 : atp f tu (fd 1 (.ref yq))) (rn : Nat → Option Nat) (hRqn : atp f qn (eqr G 4 8 rn)) (rx : Nat → Int32) (hRxq : atp f xq (eqc (.inl (G 1, 40, .inl rx)))) (ry : Nat → Int32) (hRyq : atp f yq (eqc (.inl (G 1, 40, .inl ry)))) (bk : Nat → Int32) (hb9 : ∀ k : Nat, k < 80 → iv (bk k) 0 9) (hSO : ∀ j : Nat, (j : Int) < sz.toInt → ∃ q, rn j = some q ∧ SO G τ f q (fun k => bk (10 * j + k)))  : mI l yX10_sum cX10_sum 6 (.int) rm_s_X10_sumX D G b0 f [.ref u0, .int u1, .int u2, .int u3] (fun r f1 => iv r (-2) 1000002 ∧ TI G 9 τ f1 ∧ Fr [36, 80] τ f f1 ∧ (((0 ≤ u1.toInt ∧ u1.toInt < sz.toInt) ∧ 1 ≤ u2.toInt ∧ u2.toInt ≤ 1000002 ∧ 1 ≤ u3.toInt ∧ u3.toInt ≤ 1000002 → r.toInt = (if OG (fun k : Int => (bk (10 * u1.toInt + k).toNat).toInt) u2.toInt u3.toInt = -1 then -1 else alt (fun k : Int => (bk (10 * u1.toInt + k).toNat).toInt) u2.toInt u3.toInt (OG (fun k : Int => (bk (10 * u1.toInt + k).toNat).toInt) u2.toInt u3.toInt).toNat % 1000003)) ∧ (¬ ((0 ≤ u1.toInt ∧ u1.toInt < sz.toInt) ∧ 1 ≤ u2.toInt ∧ u2.toInt ≤ 1000002 ∧ 1 ≤ u3.toInt ∧ u3.toInt ≤ 1000002) → r.toInt = -2))) := by
  refine met2 (own := RX10) (by decide) rfl (Nat.le_of_ble_eq_true rfl) ?_
  intro p e s m args below meth c ls Q hQ C hr hini hl h
  have hl : lv_has ls 6 [(0, .ref u0), (1, .int u1), (2, .int u2), (3, .int u3)] := hl
  obtain ⟨hx, hb, hml, hown, hts, hE0, hlk⟩ := id C
  have o := Fr.rf [36, 80] τ f
  refine lv_aload_n hx hb dX10_sum_0 rfl (lv_at hl 0 rfl) ?_
  refine t_getfd C h t hu0 (by decide) wf_10 (v := .ref bo) k_u0_1 fl_X10_19 dX10_sum_1 ?_
  refine lv_iload_n hx hb dX10_sum_4 rfl (lv_at hl 1 rfl) ?_
  obtain ⟨_, r1⟩ := t_rec t hbo (by decide) wf_12
  refine k_q (r_V C h hl (As := [.int u1]) (rest := []) (s_X0_findX l D G b0 τ f t bo hbo u1 hu1 sn hsn k_bo_1 qn hqn k_sn_0 sz hsz k_sn_1 rn hRqn) r1 (Cn := RX0) (T := TX0) (N := 6) rfl rfl mk_X0_find w_594 w_595 w_596 w_597 ⟨Nat.le_of_ble_eq_true rfl, Nat.le_of_ble_eq_true rfl⟩ rfl (Nat.le_of_ble_eq_true rfl) ⟨Nat.le_of_ble_eq_true rfl, Nat.le_of_ble_eq_true rfl⟩ rfl dX10_sum_5) h (fun r2 f3 H locs p4 h => ?_)
  obtain ⟨qr2, tf3, ogf3, x0r2⟩ := p4
  have egf3 := Fr.nil2 ogf3
  subst egf3
  have tr2 := qr2
  refine lv_astoreO (lv' := [(4, va_rf r2), (0, .ref u0), (1, .int u1), (2, .int u2), (3, .int u3)]) hx hb dX10_sum_8 hl (by decide) rfl (fun ls hl => ?_)
  refine lv_aloadO hx hb dX10_sum_10 (lv_at hl 0 rfl) ?_
  rcases va_rfc r2 with eq6 | ⟨q6, eq6⟩
  · subst eq6
    have nkr2 : ¬ (0 ≤ u1.toInt ∧ u1.toInt < sz.toInt) := fun z_ => by rw [if_pos z_] at x0r2; obtain ⟨q_, h_, -⟩ := hSO u1.toInt.toNat (by omega); rw [h_] at x0r2; cases x0r2
    have hl : lv_has ls 6 [(4, .null), (0, .ref u0), (1, .int u1), (2, .int u2), (3, .int u3)] := hl
    show W _ _ _ _ _ _ _ _ _ _ _ _ _ _ _ (F0 m 12 ls [.null])
    refine lv_ifnullN (tgt := 29) hx hb dX10_sum_12 (by decide) ?_
    refine lv_bipush (v := -2) hx hb dX10_sum_29 (by decide) ?_
    exact u_iret C h hr hQ (⟨⟨by decide, by decide⟩, t, o, ⟨fun z_ => absurd z_ (by omega), fun _ => rfl⟩⟩) (Nat.le_of_ble_eq_true rfl) (Nat.le_of_ble_eq_true rfl) dX10_sum_31
  · subst eq6
    have tq6 : τ q6 = 1 := tr2 _ rfl
    have okr2 : (0 ≤ u1.toInt ∧ u1.toInt < sz.toInt) := by
      by_cases z_ : (0 ≤ u1.toInt ∧ u1.toInt < sz.toInt)
      · exact z_
      · rw [if_neg z_] at x0r2; cases x0r2
    rw [if_pos okr2] at x0r2
    obtain ⟨q_, h_, -, wqS1, wwS1, twS1, kwS1, krS1, hwS1, kxS1, kyS1⟩ := hSO u1.toInt.toNat (by omega)
    rw [← x0r2] at h_; cases h_
    have hwS1 : ∀ k : Nat, k < 8 → wwS1 k = bk (10 * u1.toInt.toNat + k) := hwS1
    have kxS1 : atp f q6 (fd 1 (.int (bk (10 * u1.toInt.toNat + 8)))) := kxS1
    have kyS1 : atp f q6 (fd 2 (.int (bk (10 * u1.toInt.toNat + 9)))) := kyS1
    obtain ⟨sxS1, esxS1, isxS1⟩ : ∃ z_ : Int32, z_ = bk (10 * u1.toInt.toNat + 8) ∧ iv z_ 0 9 := ⟨_, rfl, hb9 _ (by omega)⟩
    rw [← esxS1] at kxS1
    obtain ⟨syS1, esyS1, isyS1⟩ : ∃ z_ : Int32, z_ = bk (10 * u1.toInt.toNat + 9) ∧ iv z_ 0 9 := ⟨_, rfl, hb9 _ (by omega)⟩
    rw [← esyS1] at kyS1
    have hl : lv_has ls 6 [(4, .ref q6), (0, .ref u0), (1, .int u1), (2, .int u2), (3, .int u3)] := hl
    show W _ _ _ _ _ _ _ _ _ _ _ _ _ _ _ (F0 m 12 ls [.ref q6])
    refine lv_ifnull hx hb dX10_sum_12 ?_
    refine lv_iload_n hx hb dX10_sum_15 rfl (lv_at hl 3 rfl) ?_
    refine k_i (r_S C h hl (As := [.int u2]) (rest := []) (s_X10_isUnitX l D G b0 τ f t u2 hu2) mk_X10_isUnit w_941 w_942 w_943 ⟨Nat.le_of_ble_eq_true rfl, Nat.le_of_ble_eq_true rfl⟩ rfl (Nat.le_of_ble_eq_true rfl) ⟨Nat.le_of_ble_eq_true rfl, Nat.le_of_ble_eq_true rfl⟩ rfl dX10_sum_16) h (fun r7 f8 H locs p9 h => ?_)
    obtain ⟨ir7, tf8, ogf8, cnr7, czr7⟩ := p9
    have egf8 := Fr.nil2 ogf8
    subst egf8
    refine lv_if_eq (tgt := 29) hx hb dX10_sum_19 (by decide) (fun c10 => ?_) (fun c10 => ?_)
    · have c11 : r7.toInt = 0 := congrArg Int32.toInt c10
      have i12 : iv r7 0 0 := iv_Q c11 ir7 (iv_k (x := 0) (k := 0) rfl) (by decide)
      have i13 := czr7 c11
      refine lv_bipush (v := -2) hx hb dX10_sum_29 (by decide) ?_
      exact u_iret C h hr hQ (⟨⟨by decide, by decide⟩, t, o, ⟨fun z_ => absurd z_ (by omega), fun _ => rfl⟩⟩) (Nat.le_of_ble_eq_true rfl) (Nat.le_of_ble_eq_true rfl) dX10_sum_31
    · have c14 : r7.toInt ≠ 0 := fun z_ => c10 (Int32.toInt_inj.mp z_)
      have i15 : iv r7 1 1 := iv_Nl c14 ir7 (by decide)
      have i16 := cnr7 c14
      refine lv_iload_n hx hb dX10_sum_22 rfl (lv_at hl 4 rfl) ?_
      refine k_i (r_S C h hl (As := [.int u3]) (rest := []) (s_X10_isUnitX l D G b0 τ f t u3 hu3) mk_X10_isUnit w_941 w_942 w_943 ⟨Nat.le_of_ble_eq_true rfl, Nat.le_of_ble_eq_true rfl⟩ rfl (Nat.le_of_ble_eq_true rfl) ⟨Nat.le_of_ble_eq_true rfl, Nat.le_of_ble_eq_true rfl⟩ rfl dX10_sum_23) h (fun r17 f18 H locs p19 h => ?_)
      obtain ⟨ir17, tf18, ogf18, cnr17, czr17⟩ := p19
      have egf18 := Fr.nil2 ogf18
      subst egf18
      refine lv_if_ne (tgt := 32) hx hb dX10_sum_26 (by decide) (fun c20 => ?_) (fun c20 => ?_)
      · have c21 : r17.toInt ≠ 0 := fun z_ => c20 (Int32.toInt_inj.mp z_)
        have i22 : iv r17 1 1 := iv_Nl c21 ir17 (by decide)
        have i23 := cnr17 c21
        refine lv_aload_n hx hb dX10_sum_32 rfl (lv_at hl 1 rfl) ?_
        refine t_getfd C h t hu0 (by decide) wf_10 (v := .ref tu) k_u0_4 fl_X10_40 dX10_sum_33 ?_
        refine lv_aload hx hb dX10_sum_36 (lv_at hl 0 rfl) ?_
        refine lv_iload_n hx hb dX10_sum_38 rfl (lv_at hl 3 rfl) ?_
        refine lv_iload_n hx hb dX10_sum_39 rfl (lv_at hl 4 rfl) ?_
        obtain ⟨_, r27⟩ := t_rec t htu (by decide) wf_35
        refine k_i (r_V C h hl (As := [.ref q6, .int u2, .int u3]) (rest := []) (s_X8_followX l D G b0 τ f t tu htu q6 tq6 u2 (iv_w i16 (by decide)) u3 (iv_w i23 (by decide)) wqS1 twS1 kwS1 xq hxq k_tu_0 yq hyq k_tu_1 wwS1 krS1 rx hRxq ry hRyq) r27 (Cn := RX8) (T := TX8) (N := 2) rfl rfl mk_X8_follow w_970 w_971 w_972 w_973 ⟨Nat.le_of_ble_eq_true rfl, Nat.le_of_ble_eq_true rfl⟩ rfl (Nat.le_of_ble_eq_true rfl) ⟨Nat.le_of_ble_eq_true rfl, Nat.le_of_ble_eq_true rfl⟩ rfl dX10_sum_40) h (fun r28 f29 H locs p30 h => ?_)
        obtain ⟨ir28, tf29, ogf29, x0r28, ⟨rx1_f29, ry1_f29, kRxqf29, kRyqf29, jtf29⟩⟩ := p30
        have of29 : Fr [36, 80] τ f f29 := Fr.tr o ogf29 (by decide) (by decide)
        have k31 := atp.fr k_u0_1 ogf29 hu0 (by decide)
        have k32 := atp.fr k_bo_1 ogf29 hbo (by decide)
        have k33 := atp.fr k_sn_0 ogf29 hsn (by decide)
        have k34 := atp.fr k_sn_1 ogf29 hsn (by decide)
        have k35 := atp.fr k_u0_4 ogf29 hu0 (by decide)
        have k36 := atp.fr k_tu_0 ogf29 htu (by decide)
        have k37 := atp.fr k_tu_1 ogf29 htu (by decide)
        have k38 := atp.fr hRqn ogf29 hqn (by decide)
        have k39 := atp.fr kwS1 ogf29 tq6 (by decide)
        have k40 := atp.fr krS1 ogf29 twS1 (by decide)
        have k41 := atp.fr kxS1 ogf29 tq6 (by decide)
        have k42 := atp.fr kyS1 ogf29 tq6 (by decide)
        refine lv_istore (lv' := [(5, .int r28), (4, .ref q6), (0, .ref u0), (1, .int u1), (2, .int u2), (3, .int u3)]) hx hb dX10_sum_43 hl (by decide) rfl (fun ls hl => ?_)
        refine lv_iload hx hb dX10_sum_45 (lv_at hl 0 rfl) ?_
        refine lv_iconst (v := -1) hx hb dX10_sum_47 (by decide) ?_
        refine lv_icmp_ne (tgt := 55) hx hb dX10_sum_48 (by decide) (fun c43 => ?_) (fun c43 => ?_)
        · have c44 : r28.toInt ≠ (-1) := fun z_ => c43 (Int32.toInt_inj.mp z_)
          have i45 : iv r28 0 40 := iv_Nl c44 ir28 (by decide)
          refine lv_aload_n hx hb dX10_sum_55 rfl (lv_at hl 2 rfl) ?_
          refine t_getfd C h tf29 hu0 (by decide) wf_10 (v := .ref tu) k35 fl_X10_40 dX10_sum_56 ?_
          refine lv_iload hx hb dX10_sum_59 (lv_at hl 0 rfl) ?_
          obtain ⟨_, r48⟩ := t_rec tf29 htu (by decide) wf_35
          refine k_i (r_V C h hl (As := [.int r28]) (rest := []) (s_X8_alternatingX l D G b0 τ f29 tf29 tu htu r28 i45 xq hxq k36 yq hyq k37 rx1_f29 kRxqf29 ry1_f29 kRyqf29 (fun k : Int => (wwS1 k.toNat).toInt) u2.toInt u3.toInt (jtf29 (by omega))) r48 (Cn := RX8) (T := TX8) (N := 2) rfl rfl mk_X8_alternating w_990 w_991 w_992 w_993 ⟨Nat.le_of_ble_eq_true rfl, Nat.le_of_ble_eq_true rfl⟩ rfl (Nat.le_of_ble_eq_true rfl) ⟨Nat.le_of_ble_eq_true rfl, Nat.le_of_ble_eq_true rfl⟩ rfl dX10_sum_61) h (fun r49 f50 H locs p51 h => ?_)
          obtain ⟨ir49, tf50, ogf50, x0r49⟩ := p51
          have egf50 := Fr.nil2 ogf50
          subst egf50
          exact u_iret C h hr hQ (⟨(iv_w ir49 (by decide)), tf29, of29, ⟨fun _ => (by
              have eo_ : OG (fun k : Int => (bk (10 * u1.toInt + k).toNat).toInt) u2.toInt u3.toInt = OG (fun k : Int => (wwS1 k.toNat).toInt) u2.toInt u3.toInt := (OG_c (wf_bf hwS1 (by omega)) _ _).symm
              rw [if_neg (by omega), x0r49, eo_, ← x0r28]
              exact congrArg (fun z_ => z_ % 1000003) (alt_c (wf_bf hwS1 (by omega)) _ _ _)), fun z_ => absurd (by omega) z_⟩⟩) (Nat.le_of_ble_eq_true rfl) (Nat.le_of_ble_eq_true rfl) dX10_sum_64
        · have c46 : r28.toInt = (-1) := congrArg Int32.toInt c43
          have i47 : iv r28 (-1) (-1) := iv_Q c46 ir28 (iv_k (x := (-1)) (k := (-1)) rfl) (by decide)
          refine lv_iconst (v := -1) hx hb dX10_sum_51 (by decide) ?_
          refine lv_goto (tgt := 64) hx hb dX10_sum_52 (by decide) ?_
          exact u_iret C h hr hQ (⟨⟨by decide, by decide⟩, tf29, of29, ⟨fun _ => (by
              have eo_ : OG (fun k : Int => (bk (10 * u1.toInt + k).toNat).toInt) u2.toInt u3.toInt = OG (fun k : Int => (wwS1 k.toNat).toInt) u2.toInt u3.toInt := (OG_c (wf_bf hwS1 (by omega)) _ _).symm
              exact (if_pos (by omega)).symm), fun z_ => absurd (by omega) z_⟩⟩) (Nat.le_of_ble_eq_true rfl) (Nat.le_of_ble_eq_true rfl) dX10_sum_64
      · have c24 : r17.toInt = 0 := congrArg Int32.toInt c20
        have i25 : iv r17 0 0 := iv_Q c24 ir17 (iv_k (x := 0) (k := 0) rfl) (by decide)
        have i26 := czr17 c24
        refine lv_bipush (v := -2) hx hb dX10_sum_29 (by decide) ?_
        exact u_iret C h hr hQ (⟨⟨by decide, by decide⟩, t, o, ⟨fun z_ => absurd z_ (by omega), fun _ => rfl⟩⟩) (Nat.le_of_ble_eq_true rfl) (Nat.le_of_ble_eq_true rfl) dX10_sum_31
