
abbrev rm_s_X11_isOfX : Room := { frames := 1, cells := 0, slots := 0, locals := 22 }
set_option maxRecDepth 100000 in
set_option maxHeartbeats 4000000 in
theorem s_X11_isOfX (l : Launch) (D : va_G) (G : Nat → Nat) (b0 : Nat) (τ : Nat → Nat) (f : hM) (t : TI G 9 τ f) (u0 : Nat) (hu0 : τ u0 = 60) (u1 : Int32) (hu1 : iv u1 (-2147483648) 2147483647) (u2 : Int32) (hu2 : iv u2 0 7) (u3 : Int32) (hu3 : iv u3 (-2147483648) 2147483647) (u4 : Int32) (hu4 : iv u4 (-2147483648) 2147483647) (bq : Nat) (hbq : τ bq = 63) (k_u0_6 : atp f u0 (fd 6 (.ref bq))) (rb : Nat → Int32) (hRbq : atp f bq (eqc (.inl (G 1, 81, .inl rb)))) : mI l yX11_isOf cX11_isOf 5 (.boolean) rm_s_X11_isOfX D G b0 f [.ref u0, .int u1, .int u2, .int u3, .int u4] (fun r f1 => iv r 0 1 ∧ TI G 9 τ f1 ∧ Fr [] τ f f1 ∧ (r.toInt ≠ 0 → (ofk rb u2.toInt u1.toInt u3.toInt u4.toInt)) ∧ (r.toInt = 0 → (¬ (ofk rb u2.toInt u1.toInt u3.toInt u4.toInt)))) := by
  refine met2 (own := RX11) (by decide) rfl (Nat.le_of_ble_eq_true rfl) ?_
  intro p e s m args below meth c ls Q hQ C hr hini hl h
  have hl : lv_has ls 5 [(0, .ref u0), (1, .int u1), (2, .int u2), (3, .int u3), (4, .int u4)] := hl
  obtain ⟨hx, hb, hml, hown, hts, hE0, hlk⟩ := id C
  have o := Fr.rf [] τ f
  refine lv_iload_n hx hb dX11_isOf_0 rfl (lv_at hl 1 rfl) ?_
  rcases sw_0_3 u1 with c1 | c1 | c1 | c1 | c1
  · refine lv_tableIn (tgt := 32) hx hb dX11_isOf_1 (by rw [c1]; decide) (by rw [c1]; decide) (off := 31) (by rw [c1]; rfl) (by decide) ?_
    have i2 : iv u1 0 0 := by rw [c1]; exact iv_k rfl
    refine lv_iconst (v := 1) hx hb dX11_isOf_32 (by decide) ?_
    exact u_zret C h hr hQ ⟨by decide, by decide⟩ (⟨⟨by decide, by decide⟩, t, o, (fun _ => (by omega)), (fun h_ => absurd h_ (by decide))⟩) (Nat.le_of_ble_eq_true rfl) (Nat.le_of_ble_eq_true rfl) dX11_isOf_33
  · refine lv_tableIn (tgt := 34) hx hb dX11_isOf_1 (by rw [c1]; decide) (by rw [c1]; decide) (off := 33) (by rw [c1]; rfl) (by decide) ?_
    have i3 : iv u1 1 1 := by rw [c1]; exact iv_k rfl
    refine lv_iload_n hx hb dX11_isOf_34 rfl (lv_at hl 3 rfl) ?_
    refine lv_aload_n hx hb dX11_isOf_35 rfl (lv_at hl 0 rfl) ?_
    refine lv_iload_n hx hb dX11_isOf_36 rfl (lv_at hl 2 rfl) ?_
    refine lv_bipush (v := 8) hx hb dX11_isOf_37 (by decide) ?_
    obtain ⟨_, r6⟩ := t_rec t hu0 (by decide) wf_60
    refine k_i (r_V C h hl (As := [.int u2, .int 8]) (rest := [.int u3]) (s_X11_weightOfX l D G b0 τ f t u0 hu0 u2 hu2 8 (iv_w (iv_k (x := 8) (k := 8) rfl) (by decide)) bq hbq k_u0_6 rb hRbq) r6 (Cn := RX11) (T := TX11) (N := 32) rfl rfl mk_X11_weightOf w_1631 w_1633 w_52 w_1634 ⟨Nat.le_of_ble_eq_true rfl, Nat.le_of_ble_eq_true rfl⟩ rfl (Nat.le_of_ble_eq_true rfl) ⟨Nat.le_of_ble_eq_true rfl, Nat.le_of_ble_eq_true rfl⟩ rfl dX11_isOf_39) h (fun r7 f8 H locs p9 h => ?_)
    have n10 : (8 : Int32).toInt = 8 := rfl
    obtain ⟨ir7, tf8, ogf8, x0r7, x1r7⟩ := p9
    have x0r7 : r7 = (rb (10 * u2.toInt + 8).toNat) := x0r7
    have x1r7 : r7.toInt = (rb (10 * u2.toInt + 8).toNat).toInt := x1r7
    have egf8 := Fr.nil2 ogf8
    subst egf8
    have ox_ : r7.toInt = (rb (10 * u2.toInt + 8).toNat).toInt := x1r7
    refine lv_icmp_ne (tgt := 61) hx hb dX11_isOf_42 (by decide) (fun c11 => ?_) (fun c11 => ?_)
    · have c12 : u3.toInt ≠ r7.toInt := fun z_ => c11 (Int32.toInt_inj.mp z_)
      refine lv_iconst (v := 0) hx hb dX11_isOf_61 (by decide) ?_
      exact u_zret C h hr hQ ⟨by decide, by decide⟩ (⟨⟨by decide, by decide⟩, t, o, (fun h_ => absurd h_ (by decide)), (fun _ => (by omega))⟩) (Nat.le_of_ble_eq_true rfl) (Nat.le_of_ble_eq_true rfl) dX11_isOf_62
    · have c13 : u3.toInt = r7.toInt := congrArg Int32.toInt c11
      have i14 : iv u3 0 9 := iv_Q c13 hu3 ir7 (by decide)
      refine lv_iload hx hb dX11_isOf_45 (lv_at hl 4 rfl) ?_
      refine lv_aload_n hx hb dX11_isOf_47 rfl (lv_at hl 0 rfl) ?_
      refine lv_iload_n hx hb dX11_isOf_48 rfl (lv_at hl 2 rfl) ?_
      refine lv_bipush (v := 9) hx hb dX11_isOf_49 (by decide) ?_
      obtain ⟨_, r15⟩ := t_rec t hu0 (by decide) wf_60
      refine k_i (r_V C h hl (As := [.int u2, .int 9]) (rest := [.int u4]) (s_X11_weightOfX l D G b0 τ f t u0 hu0 u2 hu2 9 (iv_w (iv_k (x := 9) (k := 9) rfl) (by decide)) bq hbq k_u0_6 rb hRbq) r15 (Cn := RX11) (T := TX11) (N := 32) rfl rfl mk_X11_weightOf w_1631 w_1633 w_52 w_1634 ⟨Nat.le_of_ble_eq_true rfl, Nat.le_of_ble_eq_true rfl⟩ rfl (Nat.le_of_ble_eq_true rfl) ⟨Nat.le_of_ble_eq_true rfl, Nat.le_of_ble_eq_true rfl⟩ rfl dX11_isOf_51) h (fun r16 f17 H locs p18 h => ?_)
      have n19 : (9 : Int32).toInt = 9 := rfl
      obtain ⟨ir16, tf17, ogf17, x0r16, x1r16⟩ := p18
      have x0r16 : r16 = (rb (10 * u2.toInt + 9).toNat) := x0r16
      have x1r16 : r16.toInt = (rb (10 * u2.toInt + 9).toNat).toInt := x1r16
      have egf17 := Fr.nil2 ogf17
      subst egf17
      have oy_ : r16.toInt = (rb (10 * u2.toInt + 9).toNat).toInt := x1r16
      refine lv_icmp_ne (tgt := 61) hx hb dX11_isOf_54 (by decide) (fun c20 => ?_) (fun c20 => ?_)
      · have c21 : u4.toInt ≠ r16.toInt := fun z_ => c20 (Int32.toInt_inj.mp z_)
        refine lv_iconst (v := 0) hx hb dX11_isOf_61 (by decide) ?_
        exact u_zret C h hr hQ ⟨by decide, by decide⟩ (⟨⟨by decide, by decide⟩, t, o, (fun h_ => absurd h_ (by decide)), (fun _ => (by omega))⟩) (Nat.le_of_ble_eq_true rfl) (Nat.le_of_ble_eq_true rfl) dX11_isOf_62
      · have c22 : u4.toInt = r16.toInt := congrArg Int32.toInt c20
        have i23 : iv u4 0 9 := iv_Q c22 hu4 ir16 (by decide)
        refine lv_iconst (v := 1) hx hb dX11_isOf_57 (by decide) ?_
        refine lv_goto (tgt := 62) hx hb dX11_isOf_58 (by decide) ?_
        exact u_zret C h hr hQ ⟨by decide, by decide⟩ (⟨⟨by decide, by decide⟩, t, o, (fun _ => (by omega)), (fun h_ => absurd h_ (by decide))⟩) (Nat.le_of_ble_eq_true rfl) (Nat.le_of_ble_eq_true rfl) dX11_isOf_62
  · refine lv_tableIn (tgt := 63) hx hb dX11_isOf_1 (by rw [c1]; decide) (by rw [c1]; decide) (off := 62) (by rw [c1]; rfl) (by decide) ?_
    have i4 : iv u1 2 2 := by rw [c1]; exact iv_k rfl
    refine lv_iload hx hb dX11_isOf_63 (lv_at hl 4 rfl) ?_
    refine lv_if_ne (tgt := 72) hx hb dX11_isOf_65 (by decide) (fun c24 => ?_) (fun c24 => ?_)
    · have c25 : u4.toInt ≠ 0 := fun z_ => c24 (Int32.toInt_inj.mp z_)
      refine lv_iconst (v := 0) hx hb dX11_isOf_72 (by decide) ?_
      exact u_zret C h hr hQ ⟨by decide, by decide⟩ (⟨⟨by decide, by decide⟩, t, o, (fun h_ => absurd h_ (by decide)), (fun _ => (by omega))⟩) (Nat.le_of_ble_eq_true rfl) (Nat.le_of_ble_eq_true rfl) dX11_isOf_73
    · have c26 : u4.toInt = 0 := congrArg Int32.toInt c24
      have i27 : iv u4 0 0 := iv_Q c26 hu4 (iv_k (x := 0) (k := 0) rfl) (by decide)
      refine lv_iconst (v := 1) hx hb dX11_isOf_68 (by decide) ?_
      refine lv_goto (tgt := 73) hx hb dX11_isOf_69 (by decide) ?_
      exact u_zret C h hr hQ ⟨by decide, by decide⟩ (⟨⟨by decide, by decide⟩, t, o, (fun _ => (by omega)), (fun h_ => absurd h_ (by decide))⟩) (Nat.le_of_ble_eq_true rfl) (Nat.le_of_ble_eq_true rfl) dX11_isOf_73
  · refine lv_tableIn (tgt := 74) hx hb dX11_isOf_1 (by rw [c1]; decide) (by rw [c1]; decide) (off := 73) (by rw [c1]; rfl) (by decide) ?_
    have i5 : iv u1 3 3 := by rw [c1]; exact iv_k rfl
    refine lv_iload_n hx hb dX11_isOf_74 rfl (lv_at hl 3 rfl) ?_
    refine lv_if_ne (tgt := 82) hx hb dX11_isOf_75 (by decide) (fun c28 => ?_) (fun c28 => ?_)
    · have c29 : u3.toInt ≠ 0 := fun z_ => c28 (Int32.toInt_inj.mp z_)
      refine lv_iconst (v := 0) hx hb dX11_isOf_82 (by decide) ?_
      exact u_zret C h hr hQ ⟨by decide, by decide⟩ (⟨⟨by decide, by decide⟩, t, o, (fun h_ => absurd h_ (by decide)), (fun _ => (by omega))⟩) (Nat.le_of_ble_eq_true rfl) (Nat.le_of_ble_eq_true rfl) dX11_isOf_83
    · have c30 : u3.toInt = 0 := congrArg Int32.toInt c28
      have i31 : iv u3 0 0 := iv_Q c30 hu3 (iv_k (x := 0) (k := 0) rfl) (by decide)
      refine lv_iconst (v := 1) hx hb dX11_isOf_78 (by decide) ?_
      refine lv_goto (tgt := 83) hx hb dX11_isOf_79 (by decide) ?_
      exact u_zret C h hr hQ ⟨by decide, by decide⟩ (⟨⟨by decide, by decide⟩, t, o, (fun _ => (by omega)), (fun h_ => absurd h_ (by decide))⟩) (Nat.le_of_ble_eq_true rfl) (Nat.le_of_ble_eq_true rfl) dX11_isOf_83
  · refine lv_tableOut (tgt := 84) hx hb dX11_isOf_1 c1 (by decide) ?_
    refine lv_iload_n hx hb dX11_isOf_84 rfl (lv_at hl 3 rfl) ?_
    refine lv_iload hx hb dX11_isOf_85 (lv_at hl 4 rfl) ?_
    refine lv_icmp_ne (tgt := 94) hx hb dX11_isOf_87 (by decide) (fun c32 => ?_) (fun c32 => ?_)
    · have c33 : u3.toInt ≠ u4.toInt := fun z_ => c32 (Int32.toInt_inj.mp z_)
      refine lv_iconst (v := 0) hx hb dX11_isOf_94 (by decide) ?_
      exact u_zret C h hr hQ ⟨by decide, by decide⟩ (⟨⟨by decide, by decide⟩, t, o, (fun h_ => absurd h_ (by decide)), (fun _ => (by omega))⟩) (Nat.le_of_ble_eq_true rfl) (Nat.le_of_ble_eq_true rfl) dX11_isOf_95
    · have c34 : u3.toInt = u4.toInt := congrArg Int32.toInt c32
      refine lv_iconst (v := 1) hx hb dX11_isOf_90 (by decide) ?_
      refine lv_goto (tgt := 95) hx hb dX11_isOf_91 (by decide) ?_
      exact u_zret C h hr hQ ⟨by decide, by decide⟩ (⟨⟨by decide, by decide⟩, t, o, (fun _ => (by omega)), (fun h_ => absurd h_ (by decide))⟩) (Nat.le_of_ble_eq_true rfl) (Nat.le_of_ble_eq_true rfl) dX11_isOf_95
abbrev rm_s_X11_sumOfX : Room := { frames := 2, cells := 0, slots := 0, locals := 46 }
set_option maxRecDepth 100000 in
set_option maxHeartbeats 4000000 in
theorem s_X11_sumOfX (l : Launch) (D : va_G) (G : Nat → Nat) (b0 : Nat) (τ : Nat → Nat) (f : hM) (t : TI G 9 τ f) (u0 : Nat) (hu0 : τ u0 = 60) (u1 : Int32) (hu1 : iv u1 0 7) (u2 : Int32) (hu2 : iv u2 (-2147483648) 2147483647) (gn : Int32) (hgn : iv gn 0 60) (k_u0_14 : atp f u0 (fd 14 (.int gn))) (bq : Nat) (hbq : τ bq = 63) (k_u0_6 : atp f u0 (fd 6 (.ref bq))) (rb : Nat → Int32) (hRbq : atp f bq (eqc (.inl (G 1, 81, .inl rb)))) (gf : Nat → Int64) (hGR : GRp G τ f u0 gf)  : mI l yX11_sumOf cX11_sumOf 9 (.int) rm_s_X11_sumOfX D G b0 f [.ref u0, .int u1, .int u2] (fun r f1 => iv r (-1000002) 1000002 ∧ TI G 9 τ f1 ∧ Fr [] τ f f1 ∧ (r = smf rb u1.toInt u2.toInt gn.toInt gf)) := by
  refine met2 (own := RX11) (by decide) rfl (Nat.le_of_ble_eq_true rfl) ?_
  intro p e s m args below meth c ls Q hQ C hr hini hl h
  have hl : lv_has ls 9 [(0, .ref u0), (1, .int u1), (2, .int u2)] := hl
  obtain ⟨hx, hb, hml, hown, hts, hE0, hlk⟩ := id C
  have o := Fr.rf [] τ f
  obtain ⟨ga, gb, rg, rh, hab, ⟨hga, hgb⟩, k_u0_12, k_u0_13, hRga, hRgb, hag⟩ := hGR
  have L29 : ∀ (n29 : Nat) (ls : Array Slot) (f_29 : hM) (H : Heap) (locs : List Loc) (v29_3 : Int64) (v29_5 : Int32) (v29_6 : Int32) (v29_7 : Int32), 70 - v29_7.toInt < (n29 : Int) → lv_has ls 9 [(0, .ref u0), (1, .int u1), (2, .int u2), (3, .long v29_3), (5, .int v29_5), (6, .int v29_6), (7, .int v29_7)] → hw D b0 s.heap f_29 H locs → TI G 9 τ f_29 → Fr [] τ f f_29 → iv v29_5 0 9 → iv v29_6 0 9 → iv v29_7 (-60) 70 → atp f_29 u0 (fd 14 (.int gn)) → atp f_29 u0 (fd 6 (.ref bq)) → atp f_29 bq (eqc (.inl (G 1, 81, .inl rb))) → atp f_29 u0 (fd 12 (.ref ga)) → atp f_29 u0 (fd 13 (.ref gb)) → atp f_29 ga (lrw G 19600 rg) → atp f_29 gb (lrw G 19600 rh) → v29_5.toInt = (rb (10 * u1.toInt + 8).toNat).toInt ∧ v29_6.toInt = (rb (10 * u1.toInt + 9).toNat).toInt → ((rb (10 * u1.toInt + 8).toNat).toInt - gn.toInt) ≤ v29_7.toInt → v29_7.toInt ≤ (rb (10 * u1.toInt + 8).toNat).toInt + gn.toInt + 1 → (v29_3 = (sX rb u1.toInt u2.toInt rg ((rb (10 * u1.toInt + 8).toNat).toInt - gn.toInt) ((rb (10 * u1.toInt + 9).toNat).toInt - gn.toInt) (2 * gn.toInt + 1).toNat (v29_7.toInt - ((rb (10 * u1.toInt + 8).toNat).toInt - gn.toInt)).toNat 0)) → W p l e rm_s_X11_sumOfX s m args below meth c H locs 0 0 Q (F0 m 29 ls []) := by
    intro n29
    induction n29 with
    | zero => intro ls f_29 H locs v29_3 v29_5 v29_6 v29_7 hm29 hl h t_29 o_29 iv29_5 iv29_6 iv29_7 k29_u0_14 k29_u0_6 k29_bq_R k29_u0_12 k29_u0_13 k29_ga_R k29_gb_R hv29_0 hv29_1 hv29_2 hv29_3; exact absurd hm29 (by omega)
    | succ n29 ih29 =>
      intro ls f_29 H locs v29_3 v29_5 v29_6 v29_7 hm29 hl h t_29 o_29 iv29_5 iv29_6 iv29_7 k29_u0_14 k29_u0_6 k29_bq_R k29_u0_12 k29_u0_13 k29_ga_R k29_gb_R hv29_0 hv29_1 hv29_2 hv29_3
      have L50 : ∀ (n50 : Nat) (ls : Array Slot) (f_50 : hM) (H : Heap) (locs : List Loc) (v50_3 : Int64) (v50_8 : Int32), 70 - v50_8.toInt < (n50 : Int) → lv_has ls 9 [(0, .ref u0), (1, .int u1), (2, .int u2), (3, .long v50_3), (5, .int v29_5), (6, .int v29_6), (7, .int v29_7), (8, .int v50_8)] → hw D b0 s.heap f_50 H locs → TI G 9 τ f_50 → Fr [] τ f f_50 → iv v29_7 (-60) 69 → iv v50_8 (-60) 70 → atp f_50 u0 (fd 14 (.int gn)) → atp f_50 u0 (fd 6 (.ref bq)) → atp f_50 bq (eqc (.inl (G 1, 81, .inl rb))) → atp f_50 u0 (fd 12 (.ref ga)) → atp f_50 u0 (fd 13 (.ref gb)) → atp f_50 ga (lrw G 19600 rg) → atp f_50 gb (lrw G 19600 rh) → v29_5.toInt = (rb (10 * u1.toInt + 8).toNat).toInt ∧ v29_6.toInt = (rb (10 * u1.toInt + 9).toNat).toInt → ((rb (10 * u1.toInt + 9).toNat).toInt - gn.toInt) ≤ v50_8.toInt ∧ ((rb (10 * u1.toInt + 8).toNat).toInt - gn.toInt) ≤ v29_7.toInt ∧ v29_7.toInt ≤ (rb (10 * u1.toInt + 8).toNat).toInt + gn.toInt → v50_8.toInt ≤ (rb (10 * u1.toInt + 9).toNat).toInt + gn.toInt + 1 → (v50_3 = (sY rb u1.toInt u2.toInt rg v29_7.toInt ((rb (10 * u1.toInt + 9).toNat).toInt - gn.toInt) (v50_8.toInt - ((rb (10 * u1.toInt + 9).toNat).toInt - gn.toInt)).toNat (sX rb u1.toInt u2.toInt rg ((rb (10 * u1.toInt + 8).toNat).toInt - gn.toInt) ((rb (10 * u1.toInt + 9).toNat).toInt - gn.toInt) (2 * gn.toInt + 1).toNat (v29_7.toInt - ((rb (10 * u1.toInt + 8).toNat).toInt - gn.toInt)).toNat 0))) → W p l e rm_s_X11_sumOfX s m args below meth c H locs 0 0 Q (F0 m 50 ls []) := by
        intro n50
        induction n50 with
        | zero => intro ls f_50 H locs v50_3 v50_8 hm50 hl h t_50 o_50 jv50_7 iv50_8 k50_u0_14 k50_u0_6 k50_bq_R k50_u0_12 k50_u0_13 k50_ga_R k50_gb_R hv50_0 hv50_1 hv50_2 hv50_3; exact absurd hm50 (by omega)
        | succ n50 ih50 =>
          intro ls f_50 H locs v50_3 v50_8 hm50 hl h t_50 o_50 jv50_7 iv50_8 k50_u0_14 k50_u0_6 k50_bq_R k50_u0_12 k50_u0_13 k50_ga_R k50_gb_R hv50_0 hv50_1 hv50_2 hv50_3
          refine lv_iload hx hb dX11_sumOf_50 (lv_at hl 7 rfl) ?_
          refine lv_iload hx hb dX11_sumOf_52 (lv_at hl 5 rfl) ?_
          refine lv_aload_n hx hb dX11_sumOf_54 rfl (lv_at hl 0 rfl) ?_
          refine t_getfd C h t_50 hu0 (by decide) wf_60 (v := .int gn) k50_u0_14 fl_X11_209 dX11_sumOf_55 ?_
          refine i_add hx hb dX11_sumOf_58 iv29_6 hgn (lo := 0) (hi := 69) (by decide) (fun z1 ez1 mz1 iz1 => ?_)
          refine lv_icmp_gt (tgt := 96) hx hb dX11_sumOf_59 (by decide) (fun c2 => ?_) (fun c2 => ?_)
          · have c3 : z1.toInt < v50_8.toInt := Int32.lt_iff_toInt_lt.mp c2
            have i4 : iv v50_8 1 70 := iv_Lr c3 iz1 iv50_8 (by decide)
            refine i_inc hx hb dX11_sumOf_96 hl (k := 6) rfl jv50_7 rfl (lo := (-59)) (hi := 70) (by decide) (by decide) (lv' := fun v => [(7, .int v), (0, .ref u0), (1, .int u1), (2, .int u2), (3, .long v50_3), (5, .int v29_5), (6, .int v29_6), (8, .int v50_8)]) (fun _ => rfl) (fun z7 ls ez7 mz7 iz7 hl => ?_)
            refine lv_goto (tgt := 29) hx hb dX11_sumOf_99 (by decide) ?_
            exact ih29 ls f_50 H locs v50_3 v29_5 v29_6 z7 (show 70 - z7.toInt < _ by omega) (lv_cons hl 1 rfl (lv_cons hl 2 rfl (lv_cons hl 3 rfl (lv_cons hl 4 rfl (lv_cons hl 5 rfl (lv_cons hl 6 rfl (lv_cons hl 0 rfl (lv_nil hl)))))))) h t_50 o_50 iv29_5 iv29_6 (iv_w iz7 (by decide)) k50_u0_14 k50_u0_6 k50_bq_R k50_u0_12 k50_u0_13 k50_ga_R k50_gb_R (show v29_5.toInt = (rb (10 * u1.toInt + 8).toNat).toInt ∧ v29_6.toInt = (rb (10 * u1.toInt + 9).toNat).toInt by omega) (show ((rb (10 * u1.toInt + 8).toNat).toInt - gn.toInt) ≤ z7.toInt by omega) (show z7.toInt ≤ (rb (10 * u1.toInt + 8).toNat).toInt + gn.toInt + 1 by omega) (show v50_3 = (sX rb u1.toInt u2.toInt rg ((rb (10 * u1.toInt + 8).toNat).toInt - gn.toInt) ((rb (10 * u1.toInt + 9).toNat).toInt - gn.toInt) (2 * gn.toInt + 1).toNat (z7.toInt - ((rb (10 * u1.toInt + 8).toNat).toInt - gn.toInt)).toNat 0) from (by rw [sX_s (x := v29_7.toInt) (by omega) (by omega)]; have h_ := hv50_3; rw [show (v50_8.toInt - ((rb (10 * u1.toInt + 9).toNat).toInt - gn.toInt)).toNat = (2 * gn.toInt + 1).toNat by omega] at h_; exact h_))
          · have c5 : v50_8.toInt ≤ z1.toInt := Int32.le_iff_toInt_le.mp (iv_nlt c2)
            have i6 : iv v50_8 (-60) 69 := iv_El c5 iv50_8 iz1 (by decide)
            refine lv_aload_n hx hb dX11_sumOf_62 rfl (lv_at hl 0 rfl) ?_
            refine lv_iload_n hx hb dX11_sumOf_63 rfl (lv_at hl 2 rfl) ?_
            refine lv_iload_n hx hb dX11_sumOf_64 rfl (lv_at hl 1 rfl) ?_
            refine lv_iload hx hb dX11_sumOf_65 (lv_at hl 6 rfl) ?_
            refine lv_iload hx hb dX11_sumOf_67 (lv_at hl 7 rfl) ?_
            obtain ⟨_, r8⟩ := t_rec t_50 hu0 (by decide) wf_60
            refine k_i (r_V C h hl (As := [.int u2, .int u1, .int v29_7, .int v50_8]) (rest := []) (s_X11_isOfX l D G b0 τ f_50 t_50 u0 hu0 u2 hu2 u1 hu1 v29_7 (iv_w jv50_7 (by decide)) v50_8 (iv_w i6 (by decide)) bq hbq k50_u0_6 rb k50_bq_R) r8 (Cn := RX11) (T := TX11) (N := 32) rfl rfl mk_X11_isOf w_1735 w_1737 w_62 w_1738 ⟨Nat.le_of_ble_eq_true rfl, Nat.le_of_ble_eq_true rfl⟩ rfl (Nat.le_of_ble_eq_true rfl) ⟨Nat.le_of_ble_eq_true rfl, Nat.le_of_ble_eq_true rfl⟩ rfl dX11_sumOf_69) h (fun r9 f10 H locs p11 h => ?_)
            obtain ⟨ir9, tf10, ogf10, cnr9, czr9⟩ := p11
            have egf10 := Fr.nil2 ogf10
            subst egf10
            refine lv_if_eq (tgt := 90) hx hb dX11_sumOf_72 (by decide) (fun c12 => ?_) (fun c12 => ?_)
            · have c13 : r9.toInt = 0 := congrArg Int32.toInt c12
              have i14 : iv r9 0 0 := iv_Q c13 ir9 (iv_k (x := 0) (k := 0) rfl) (by decide)
              have i15 := czr9 c13
              refine i_inc hx hb dX11_sumOf_90 hl (k := 7) rfl i6 rfl (lo := (-59)) (hi := 70) (by decide) (by decide) (lv' := fun v => [(8, .int v), (0, .ref u0), (1, .int u1), (2, .int u2), (3, .long v50_3), (5, .int v29_5), (6, .int v29_6), (7, .int v29_7)]) (fun _ => rfl) (fun z19 ls ez19 mz19 iz19 hl => ?_)
              refine lv_goto (tgt := 50) hx hb dX11_sumOf_93 (by decide) ?_
              exact ih50 ls f_50 H locs v50_3 z19 (show 70 - z19.toInt < _ by omega) (lv_cons hl 1 rfl (lv_cons hl 2 rfl (lv_cons hl 3 rfl (lv_cons hl 4 rfl (lv_cons hl 5 rfl (lv_cons hl 6 rfl (lv_cons hl 7 rfl (lv_cons hl 0 rfl (lv_nil hl))))))))) h t_50 o_50 jv50_7 (iv_w iz19 (by decide)) k50_u0_14 k50_u0_6 k50_bq_R k50_u0_12 k50_u0_13 k50_ga_R k50_gb_R (show v29_5.toInt = (rb (10 * u1.toInt + 8).toNat).toInt ∧ v29_6.toInt = (rb (10 * u1.toInt + 9).toNat).toInt by omega) (show ((rb (10 * u1.toInt + 9).toNat).toInt - gn.toInt) ≤ z19.toInt ∧ ((rb (10 * u1.toInt + 8).toNat).toInt - gn.toInt) ≤ v29_7.toInt ∧ v29_7.toInt ≤ (rb (10 * u1.toInt + 8).toNat).toInt + gn.toInt by omega) (show z19.toInt ≤ (rb (10 * u1.toInt + 9).toNat).toInt + gn.toInt + 1 by omega) (show v50_3 = (sY rb u1.toInt u2.toInt rg v29_7.toInt ((rb (10 * u1.toInt + 9).toNat).toInt - gn.toInt) (z19.toInt - ((rb (10 * u1.toInt + 9).toNat).toInt - gn.toInt)).toNat (sX rb u1.toInt u2.toInt rg ((rb (10 * u1.toInt + 8).toNat).toInt - gn.toInt) ((rb (10 * u1.toInt + 9).toNat).toInt - gn.toInt) (2 * gn.toInt + 1).toNat (v29_7.toInt - ((rb (10 * u1.toInt + 8).toNat).toInt - gn.toInt)).toNat 0)) from (by rw [sY_s (y := v50_8.toInt) (by omega) (by omega), if_neg (fun z_ => i15 z_.1)]; exact hv50_3))
            · have c16 : r9.toInt ≠ 0 := fun z_ => c12 (Int32.toInt_inj.mp z_)
              have i17 : iv r9 1 1 := iv_Nl c16 ir9 (by decide)
              have i18 := cnr9 c16
              refine lv_lload_n hx hb dX11_sumOf_75 rfl (lv_at hl 3 rfl) ?_
              refine lv_aload_n hx hb dX11_sumOf_76 rfl (lv_at hl 0 rfl) ?_
              refine t_getfd C h t_50 hu0 (by decide) wf_60 (v := .ref ga) k50_u0_12 fl_X11_29 dX11_sumOf_77 ?_
              refine lv_iload hx hb dX11_sumOf_80 (lv_at hl 6 rfl) ?_
              refine lv_iload hx hb dX11_sumOf_82 (lv_at hl 7 rfl) ?_
              refine k_i (r_S C h hl (As := [.int v29_7, .int v50_8]) (rest := [.ref ga, .long v50_3]) (s_X11_cell l D G b0 τ f_50 t_50 v29_7 (iv_w jv50_7 (by decide)) v50_8 (iv_w i6 (by decide))) mk_X11_cell w_1706 w_1707 w_1708 ⟨Nat.le_of_ble_eq_true rfl, Nat.le_of_ble_eq_true rfl⟩ rfl (Nat.le_of_ble_eq_true rfl) ⟨Nat.le_of_ble_eq_true rfl, Nat.le_of_ble_eq_true rfl⟩ rfl dX11_sumOf_84) h (fun r20 f21 H locs p22 h => ?_)
              obtain ⟨ir20, tf21, ogf21, x0r20⟩ := p22
              have egf21 := Fr.nil2 ogf21
              subst egf21
              have cqr20 : r20.toInt.toNat = cel v29_7.toInt v50_8.toInt := by unfold cel; omega
              refine e_lald C h t_50 hga (by decide) wf_67 k50_ga_R (iv_in ir20 (by decide)) dX11_sumOf_87 (fun w23 ew23 => ?_)
              refine lv_ladd hx hb dX11_sumOf_88 (lv_topl (fun w24 ew24 => ?_))
              refine lv_lstore_n (lv' := [(3, .long w24), (0, .ref u0), (1, .int u1), (2, .int u2), (5, .int v29_5), (6, .int v29_6), (7, .int v29_7), (8, .int v50_8)]) hx hb dX11_sumOf_89 rfl hl (by decide) rfl (fun ls hl => ?_)
              refine i_inc hx hb dX11_sumOf_90 hl (k := 7) rfl i6 rfl (lo := (-59)) (hi := 70) (by decide) (by decide) (lv' := fun v => [(8, .int v), (3, .long w24), (0, .ref u0), (1, .int u1), (2, .int u2), (5, .int v29_5), (6, .int v29_6), (7, .int v29_7)]) (fun _ => rfl) (fun z25 ls ez25 mz25 iz25 hl => ?_)
              refine lv_goto (tgt := 50) hx hb dX11_sumOf_93 (by decide) ?_
              exact ih50 ls f_50 H locs w24 z25 (show 70 - z25.toInt < _ by omega) (lv_cons hl 2 rfl (lv_cons hl 3 rfl (lv_cons hl 4 rfl (lv_cons hl 1 rfl (lv_cons hl 5 rfl (lv_cons hl 6 rfl (lv_cons hl 7 rfl (lv_cons hl 0 rfl (lv_nil hl))))))))) h t_50 o_50 jv50_7 (iv_w iz25 (by decide)) k50_u0_14 k50_u0_6 k50_bq_R k50_u0_12 k50_u0_13 k50_ga_R k50_gb_R (show v29_5.toInt = (rb (10 * u1.toInt + 8).toNat).toInt ∧ v29_6.toInt = (rb (10 * u1.toInt + 9).toNat).toInt by omega) (show ((rb (10 * u1.toInt + 9).toNat).toInt - gn.toInt) ≤ z25.toInt ∧ ((rb (10 * u1.toInt + 8).toNat).toInt - gn.toInt) ≤ v29_7.toInt ∧ v29_7.toInt ≤ (rb (10 * u1.toInt + 8).toNat).toInt + gn.toInt by omega) (show z25.toInt ≤ (rb (10 * u1.toInt + 9).toNat).toInt + gn.toInt + 1 by omega) (show w24 = (sY rb u1.toInt u2.toInt rg v29_7.toInt ((rb (10 * u1.toInt + 9).toNat).toInt - gn.toInt) (z25.toInt - ((rb (10 * u1.toInt + 9).toNat).toInt - gn.toInt)).toNat (sX rb u1.toInt u2.toInt rg ((rb (10 * u1.toInt + 8).toNat).toInt - gn.toInt) ((rb (10 * u1.toInt + 9).toNat).toInt - gn.toInt) (2 * gn.toInt + 1).toNat (v29_7.toInt - ((rb (10 * u1.toInt + 8).toNat).toInt - gn.toInt)).toNat 0)) from (by rw [sY_s (y := v50_8.toInt) (by omega) (by omega), if_pos ⟨i18, (by rw [← cqr20]; omega)⟩, ew24, ← hv50_3, ew23, cqr20]))
      refine lv_iload hx hb dX11_sumOf_29 (lv_at hl 6 rfl) ?_
      refine lv_iload hx hb dX11_sumOf_31 (lv_at hl 4 rfl) ?_
      refine lv_aload_n hx hb dX11_sumOf_33 rfl (lv_at hl 0 rfl) ?_
      refine t_getfd C h t_29 hu0 (by decide) wf_60 (v := .int gn) k29_u0_14 fl_X11_209 dX11_sumOf_34 ?_
      refine i_add hx hb dX11_sumOf_37 iv29_5 hgn (lo := 0) (hi := 69) (by decide) (fun z26 ez26 mz26 iz26 => ?_)
      refine lv_icmp_gt (tgt := 102) hx hb dX11_sumOf_38 (by decide) (fun c27 => ?_) (fun c27 => ?_)
      · have c28 : z26.toInt < v29_7.toInt := Int32.lt_iff_toInt_lt.mp c27
        have i29 : iv v29_7 1 70 := iv_Lr c28 iz26 iv29_7 (by decide)
        refine lv_lload_n hx hb dX11_sumOf_102 rfl (lv_at hl 3 rfl) ?_
        refine lv_ldc2 (v := 1000003) hx hb hown (hts _ w_1719) dX11_sumOf_103 ?_
        refine lv_lrem hx hb dX11_sumOf_106 (by decide) (i_topl (lrem_iv (k := 1000003) rfl (by decide) (lo := -1000002) (hi := 1000002) (by decide)) (fun w32 ew32 iw32 => ?_))
        refine lv_l2i hx hb dX11_sumOf_107 rfl (i_top (iv_l2i iw32 (by decide)) (fun z33 ez33 iz33 => ?_))
        exact u_iret C h hr hQ (⟨iz33, t_29, o_29, (by rw [ez33, ew32]; unfold smf; have h_ := hv29_3; rw [show (v29_7.toInt - ((rb (10 * u1.toInt + 8).toNat).toInt - gn.toInt)).toNat = (2 * gn.toInt + 1).toNat by omega, sX_c hag] at h_; rw [h_])⟩) (Nat.le_of_ble_eq_true rfl) (Nat.le_of_ble_eq_true rfl) dX11_sumOf_108
      · have c30 : v29_7.toInt ≤ z26.toInt := Int32.le_iff_toInt_le.mp (iv_nlt c27)
        have i31 : iv v29_7 (-60) 69 := iv_El c30 iv29_7 iz26 (by decide)
        refine lv_iload hx hb dX11_sumOf_41 (lv_at hl 5 rfl) ?_
        refine lv_aload_n hx hb dX11_sumOf_43 rfl (lv_at hl 0 rfl) ?_
        refine t_getfd C h t_29 hu0 (by decide) wf_60 (v := .int gn) k29_u0_14 fl_X11_209 dX11_sumOf_44 ?_
        refine i_sub hx hb dX11_sumOf_47 iv29_6 hgn (lo := (-60)) (hi := 9) (by decide) (fun z34 ez34 mz34 iz34 => ?_)
        refine lv_istore (lv' := [(8, .int z34), (0, .ref u0), (1, .int u1), (2, .int u2), (3, .long v29_3), (5, .int v29_5), (6, .int v29_6), (7, .int v29_7)]) hx hb dX11_sumOf_48 hl (by decide) rfl (fun ls hl => ?_)
        exact L50 131 ls f_29 H locs v29_3 z34 (show 70 - z34.toInt < _ by omega) (lv_cons hl 1 rfl (lv_cons hl 2 rfl (lv_cons hl 3 rfl (lv_cons hl 4 rfl (lv_cons hl 5 rfl (lv_cons hl 6 rfl (lv_cons hl 7 rfl (lv_cons hl 0 rfl (lv_nil hl))))))))) h t_29 o_29 i31 (iv_w iz34 (by decide)) k29_u0_14 k29_u0_6 k29_bq_R k29_u0_12 k29_u0_13 k29_ga_R k29_gb_R (show v29_5.toInt = (rb (10 * u1.toInt + 8).toNat).toInt ∧ v29_6.toInt = (rb (10 * u1.toInt + 9).toNat).toInt by omega) (show ((rb (10 * u1.toInt + 9).toNat).toInt - gn.toInt) ≤ z34.toInt ∧ ((rb (10 * u1.toInt + 8).toNat).toInt - gn.toInt) ≤ v29_7.toInt ∧ v29_7.toInt ≤ (rb (10 * u1.toInt + 8).toNat).toInt + gn.toInt by omega) (show z34.toInt ≤ (rb (10 * u1.toInt + 9).toNat).toInt + gn.toInt + 1 by omega) (show v29_3 = (sY rb u1.toInt u2.toInt rg v29_7.toInt ((rb (10 * u1.toInt + 9).toNat).toInt - gn.toInt) (z34.toInt - ((rb (10 * u1.toInt + 9).toNat).toInt - gn.toInt)).toNat (sX rb u1.toInt u2.toInt rg ((rb (10 * u1.toInt + 8).toNat).toInt - gn.toInt) ((rb (10 * u1.toInt + 9).toNat).toInt - gn.toInt) (2 * gn.toInt + 1).toNat (v29_7.toInt - ((rb (10 * u1.toInt + 8).toNat).toInt - gn.toInt)).toNat 0)) from (by rw [show ((z34.toInt) - ((rb (10 * u1.toInt + 9).toNat).toInt - gn.toInt)).toNat = 0 by omega]; exact hv29_3))
  refine lv_lconst (v := 0) hx hb dX11_sumOf_0 (by decide) ?_
  refine lv_lstore_n (lv' := [(3, .long 0), (0, .ref u0), (1, .int u1), (2, .int u2)]) hx hb dX11_sumOf_1 rfl hl (by decide) rfl (fun ls hl => ?_)
  refine lv_aload_n hx hb dX11_sumOf_2 rfl (lv_at hl 1 rfl) ?_
  refine lv_iload_n hx hb dX11_sumOf_3 rfl (lv_at hl 2 rfl) ?_
  refine lv_bipush (v := 8) hx hb dX11_sumOf_4 (by decide) ?_
  obtain ⟨_, r35⟩ := t_rec t hu0 (by decide) wf_60
  refine k_i (r_V C h hl (As := [.int u1, .int 8]) (rest := []) (s_X11_weightOfX l D G b0 τ f t u0 hu0 u1 hu1 8 (iv_w (iv_k (x := 8) (k := 8) rfl) (by decide)) bq hbq k_u0_6 rb hRbq) r35 (Cn := RX11) (T := TX11) (N := 32) rfl rfl mk_X11_weightOf w_1631 w_1633 w_52 w_1634 ⟨Nat.le_of_ble_eq_true rfl, Nat.le_of_ble_eq_true rfl⟩ rfl (Nat.le_of_ble_eq_true rfl) ⟨Nat.le_of_ble_eq_true rfl, Nat.le_of_ble_eq_true rfl⟩ rfl dX11_sumOf_6) h (fun r36 f37 H locs p38 h => ?_)
  have n39 : (8 : Int32).toInt = 8 := rfl
  obtain ⟨ir36, tf37, ogf37, x0r36, x1r36⟩ := p38
  have x0r36 : r36 = (rb (10 * u1.toInt + 8).toNat) := x0r36
  have x1r36 : r36.toInt = (rb (10 * u1.toInt + 8).toNat).toInt := x1r36
  have egf37 := Fr.nil2 ogf37
  subst egf37
  have mx_ : r36.toInt = (rb (10 * u1.toInt + 8).toNat).toInt := x1r36
  refine lv_istore (lv' := [(5, .int r36), (3, .long 0), (0, .ref u0), (1, .int u1), (2, .int u2)]) hx hb dX11_sumOf_9 hl (by decide) rfl (fun ls hl => ?_)
  refine lv_aload_n hx hb dX11_sumOf_11 rfl (lv_at hl 2 rfl) ?_
  refine lv_iload_n hx hb dX11_sumOf_12 rfl (lv_at hl 3 rfl) ?_
  refine lv_bipush (v := 9) hx hb dX11_sumOf_13 (by decide) ?_
  obtain ⟨_, r40⟩ := t_rec t hu0 (by decide) wf_60
  refine k_i (r_V C h hl (As := [.int u1, .int 9]) (rest := []) (s_X11_weightOfX l D G b0 τ f t u0 hu0 u1 hu1 9 (iv_w (iv_k (x := 9) (k := 9) rfl) (by decide)) bq hbq k_u0_6 rb hRbq) r40 (Cn := RX11) (T := TX11) (N := 32) rfl rfl mk_X11_weightOf w_1631 w_1633 w_52 w_1634 ⟨Nat.le_of_ble_eq_true rfl, Nat.le_of_ble_eq_true rfl⟩ rfl (Nat.le_of_ble_eq_true rfl) ⟨Nat.le_of_ble_eq_true rfl, Nat.le_of_ble_eq_true rfl⟩ rfl dX11_sumOf_15) h (fun r41 f42 H locs p43 h => ?_)
  have n44 : (9 : Int32).toInt = 9 := rfl
  obtain ⟨ir41, tf42, ogf42, x0r41, x1r41⟩ := p43
  have x0r41 : r41 = (rb (10 * u1.toInt + 9).toNat) := x0r41
  have x1r41 : r41.toInt = (rb (10 * u1.toInt + 9).toNat).toInt := x1r41
  have egf42 := Fr.nil2 ogf42
  subst egf42
  have my_ : r41.toInt = (rb (10 * u1.toInt + 9).toNat).toInt := x1r41
  refine lv_istore (lv' := [(6, .int r41), (5, .int r36), (3, .long 0), (0, .ref u0), (1, .int u1), (2, .int u2)]) hx hb dX11_sumOf_18 hl (by decide) rfl (fun ls hl => ?_)
  refine lv_iload hx hb dX11_sumOf_20 (lv_at hl 1 rfl) ?_
  refine lv_aload_n hx hb dX11_sumOf_22 rfl (lv_at hl 3 rfl) ?_
  refine t_getfd C h t hu0 (by decide) wf_60 (v := .int gn) k_u0_14 fl_X11_209 dX11_sumOf_23 ?_
  refine i_sub hx hb dX11_sumOf_26 ir36 hgn (lo := (-60)) (hi := 9) (by decide) (fun z45 ez45 mz45 iz45 => ?_)
  refine lv_istore (lv' := [(7, .int z45), (6, .int r41), (5, .int r36), (3, .long 0), (0, .ref u0), (1, .int u1), (2, .int u2)]) hx hb dX11_sumOf_27 hl (by decide) rfl (fun ls hl => ?_)
  exact L29 131 ls f H locs 0 r36 r41 z45 (show 70 - z45.toInt < _ by omega) (lv_cons hl 4 rfl (lv_cons hl 5 rfl (lv_cons hl 6 rfl (lv_cons hl 3 rfl (lv_cons hl 2 rfl (lv_cons hl 1 rfl (lv_cons hl 0 rfl (lv_nil hl)))))))) h t o ir36 ir41 (iv_w iz45 (by decide)) k_u0_14 k_u0_6 hRbq k_u0_12 k_u0_13 hRga hRgb (show r36.toInt = (rb (10 * u1.toInt + 8).toNat).toInt ∧ r41.toInt = (rb (10 * u1.toInt + 9).toNat).toInt by omega) (show ((rb (10 * u1.toInt + 8).toNat).toInt - gn.toInt) ≤ z45.toInt by omega) (show z45.toInt ≤ (rb (10 * u1.toInt + 8).toNat).toInt + gn.toInt + 1 by omega) (show 0 = (sX rb u1.toInt u2.toInt rg ((rb (10 * u1.toInt + 8).toNat).toInt - gn.toInt) ((rb (10 * u1.toInt + 9).toNat).toInt - gn.toInt) (2 * gn.toInt + 1).toNat (z45.toInt - ((rb (10 * u1.toInt + 8).toNat).toInt - gn.toInt)).toNat 0) from (by rw [show ((z45.toInt) - ((rb (10 * u1.toInt + 8).toNat).toInt - gn.toInt)).toNat = 0 by omega]; rfl))
