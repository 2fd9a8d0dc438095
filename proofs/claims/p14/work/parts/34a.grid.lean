
abbrev rm_s_X11_dxX : Room := { frames := 0, cells := 0, slots := 0, locals := 0 }
set_option maxRecDepth 100000 in
set_option maxHeartbeats 4000000 in
theorem s_X11_dxX (l : Launch) (D : va_G) (G : Nat → Nat) (b0 : Nat) (τ : Nat → Nat) (f : hM) (t : TI G 9 τ f) (u0 : Int32) (hu0 : iv u0 0 7) : mI l yX11_dx cX11_dx 1 (.int) rm_s_X11_dxX D G b0 f [.int u0] (fun r f1 => iv r (-1) 1 ∧ TI G 9 τ f1 ∧ Fr [] τ f f1 ∧ (r.toInt = ddx u0.toInt)) := by
  refine met2 (own := RX11) (by decide) rfl (Nat.le_of_ble_eq_true rfl) ?_
  intro p e s m args below meth c ls Q hQ C hr hini hl h
  have hl : lv_has ls 1 [(0, .int u0)] := hl
  obtain ⟨hx, hb, hml, hown, hts, hE0, hlk⟩ := id C
  have o := Fr.rf [] τ f
  refine lv_iload_n hx hb dX11_dx_0 rfl (lv_at hl 0 rfl) ?_
  refine lv_if_eq (tgt := 9) hx hb dX11_dx_1 (by decide) (fun c1 => ?_) (fun c1 => ?_)
  · have c2 : u0.toInt = 0 := congrArg Int32.toInt c1
    have i3 : iv u0 0 0 := iv_Q c2 hu0 (iv_k (x := 0) (k := 0) rfl) (by decide)
    refine lv_iconst (v := 0) hx hb dX11_dx_9 (by decide) ?_
    refine lv_goto (tgt := 23) hx hb dX11_dx_10 (by decide) ?_
    exact u_iret C h hr hQ (⟨⟨by decide, by decide⟩, t, o, (by unfold ddx; have n_ : (0 : Int32).toInt = 0 := rfl; (repeat' split) <;> omega)⟩) (Nat.le_of_ble_eq_true rfl) (Nat.le_of_ble_eq_true rfl) dX11_dx_23
  · have c4 : u0.toInt ≠ 0 := fun z_ => c1 (Int32.toInt_inj.mp z_)
    have i5 : iv u0 1 7 := iv_Nl c4 hu0 (by decide)
    refine lv_iload_n hx hb dX11_dx_4 rfl (lv_at hl 0 rfl) ?_
    refine lv_iconst (v := 4) hx hb dX11_dx_5 (by decide) ?_
    refine lv_icmp_ne (tgt := 13) hx hb dX11_dx_6 (by decide) (fun c6 => ?_) (fun c6 => ?_)
    · have c7 : u0.toInt ≠ 4 := fun z_ => c6 (Int32.toInt_inj.mp z_)
      refine lv_iload_n hx hb dX11_dx_13 rfl (lv_at hl 0 rfl) ?_
      refine lv_iconst (v := 4) hx hb dX11_dx_14 (by decide) ?_
      refine lv_icmp_ge (tgt := 22) hx hb dX11_dx_15 (by decide) (fun c10 => ?_) (fun c10 => ?_)
      · have c11 : 4 ≤ u0.toInt := Int32.le_iff_toInt_le.mp c10
        have i12 : iv u0 4 7 := iv_Er c11 (iv_k (x := 4) (k := 4) rfl) i5 (by decide)
        refine lv_iconst (v := -1) hx hb dX11_dx_22 (by decide) ?_
        exact u_iret C h hr hQ (⟨⟨by decide, by decide⟩, t, o, (by unfold ddx; have n_ : (-1 : Int32).toInt = -1 := rfl; (repeat' split) <;> omega)⟩) (Nat.le_of_ble_eq_true rfl) (Nat.le_of_ble_eq_true rfl) dX11_dx_23
      · have c13 : u0.toInt < 4 := Int32.lt_iff_toInt_lt.mp (iv_nle c10)
        have i14 : iv u0 1 3 := iv_Ll c13 i5 (iv_k (x := 4) (k := 4) rfl) (by decide)
        refine lv_iconst (v := 1) hx hb dX11_dx_18 (by decide) ?_
        refine lv_goto (tgt := 23) hx hb dX11_dx_19 (by decide) ?_
        exact u_iret C h hr hQ (⟨⟨by decide, by decide⟩, t, o, (by unfold ddx; have n_ : (1 : Int32).toInt = 1 := rfl; (repeat' split) <;> omega)⟩) (Nat.le_of_ble_eq_true rfl) (Nat.le_of_ble_eq_true rfl) dX11_dx_23
    · have c8 : u0.toInt = 4 := congrArg Int32.toInt c6
      have i9 : iv u0 4 4 := iv_Q c8 i5 (iv_k (x := 4) (k := 4) rfl) (by decide)
      refine lv_iconst (v := 0) hx hb dX11_dx_9 (by decide) ?_
      refine lv_goto (tgt := 23) hx hb dX11_dx_10 (by decide) ?_
      exact u_iret C h hr hQ (⟨⟨by decide, by decide⟩, t, o, (by unfold ddx; have n_ : (0 : Int32).toInt = 0 := rfl; (repeat' split) <;> omega)⟩) (Nat.le_of_ble_eq_true rfl) (Nat.le_of_ble_eq_true rfl) dX11_dx_23
abbrev rm_s_X11_dyX : Room := { frames := 0, cells := 0, slots := 0, locals := 0 }
set_option maxRecDepth 100000 in
set_option maxHeartbeats 4000000 in
theorem s_X11_dyX (l : Launch) (D : va_G) (G : Nat → Nat) (b0 : Nat) (τ : Nat → Nat) (f : hM) (t : TI G 9 τ f) (u0 : Int32) (hu0 : iv u0 0 7) : mI l yX11_dy cX11_dy 1 (.int) rm_s_X11_dyX D G b0 f [.int u0] (fun r f1 => iv r (-1) 1 ∧ TI G 9 τ f1 ∧ Fr [] τ f f1 ∧ (r.toInt = ddy u0.toInt)) := by
  refine met2 (own := RX11) (by decide) rfl (Nat.le_of_ble_eq_true rfl) ?_
  intro p e s m args below meth c ls Q hQ C hr hini hl h
  have hl : lv_has ls 1 [(0, .int u0)] := hl
  obtain ⟨hx, hb, hml, hown, hts, hE0, hlk⟩ := id C
  have o := Fr.rf [] τ f
  refine lv_iload_n hx hb dX11_dy_0 rfl (lv_at hl 0 rfl) ?_
  refine lv_iconst (v := 2) hx hb dX11_dy_1 (by decide) ?_
  refine lv_icmp_eq (tgt := 11) hx hb dX11_dy_2 (by decide) (fun c1 => ?_) (fun c1 => ?_)
  · have c2 : u0.toInt = 2 := congrArg Int32.toInt c1
    have i3 : iv u0 2 2 := iv_Q c2 hu0 (iv_k (x := 2) (k := 2) rfl) (by decide)
    refine lv_iconst (v := 0) hx hb dX11_dy_11 (by decide) ?_
    refine lv_goto (tgt := 31) hx hb dX11_dy_12 (by decide) ?_
    exact u_iret C h hr hQ (⟨⟨by decide, by decide⟩, t, o, (by unfold ddy; have n_ : (0 : Int32).toInt = 0 := rfl; (repeat' split) <;> omega)⟩) (Nat.le_of_ble_eq_true rfl) (Nat.le_of_ble_eq_true rfl) dX11_dy_31
  · have c4 : u0.toInt ≠ 2 := fun z_ => c1 (Int32.toInt_inj.mp z_)
    refine lv_iload_n hx hb dX11_dy_5 rfl (lv_at hl 0 rfl) ?_
    refine lv_bipush (v := 6) hx hb dX11_dy_6 (by decide) ?_
    refine lv_icmp_ne (tgt := 15) hx hb dX11_dy_8 (by decide) (fun c5 => ?_) (fun c5 => ?_)
    · have c6 : u0.toInt ≠ 6 := fun z_ => c5 (Int32.toInt_inj.mp z_)
      refine lv_iload_n hx hb dX11_dy_15 rfl (lv_at hl 0 rfl) ?_
      refine lv_iconst (v := 2) hx hb dX11_dy_16 (by decide) ?_
      refine lv_icmp_lt (tgt := 26) hx hb dX11_dy_17 (by decide) (fun c9 => ?_) (fun c9 => ?_)
      · have c10 : u0.toInt < 2 := Int32.lt_iff_toInt_lt.mp c9
        have i11 : iv u0 0 1 := iv_Ll c10 hu0 (iv_k (x := 2) (k := 2) rfl) (by decide)
        refine lv_iconst (v := 1) hx hb dX11_dy_26 (by decide) ?_
        refine lv_goto (tgt := 31) hx hb dX11_dy_27 (by decide) ?_
        exact u_iret C h hr hQ (⟨⟨by decide, by decide⟩, t, o, (by unfold ddy; have n_ : (1 : Int32).toInt = 1 := rfl; (repeat' split) <;> omega)⟩) (Nat.le_of_ble_eq_true rfl) (Nat.le_of_ble_eq_true rfl) dX11_dy_31
      · have c12 : 2 ≤ u0.toInt := Int32.le_iff_toInt_le.mp (iv_nlt c9)
        have i13 : iv u0 2 7 := iv_Er c12 (iv_k (x := 2) (k := 2) rfl) hu0 (by decide)
        refine lv_iload_n hx hb dX11_dy_20 rfl (lv_at hl 0 rfl) ?_
        refine lv_bipush (v := 7) hx hb dX11_dy_21 (by decide) ?_
        refine lv_icmp_ne (tgt := 30) hx hb dX11_dy_23 (by decide) (fun c14 => ?_) (fun c14 => ?_)
        · have c15 : u0.toInt ≠ 7 := fun z_ => c14 (Int32.toInt_inj.mp z_)
          have i16 : iv u0 2 6 := iv_Nh c15 i13 (by decide)
          refine lv_iconst (v := -1) hx hb dX11_dy_30 (by decide) ?_
          exact u_iret C h hr hQ (⟨⟨by decide, by decide⟩, t, o, (by unfold ddy; have n_ : (-1 : Int32).toInt = -1 := rfl; (repeat' split) <;> omega)⟩) (Nat.le_of_ble_eq_true rfl) (Nat.le_of_ble_eq_true rfl) dX11_dy_31
        · have c17 : u0.toInt = 7 := congrArg Int32.toInt c14
          have i18 : iv u0 7 7 := iv_Q c17 i13 (iv_k (x := 7) (k := 7) rfl) (by decide)
          refine lv_iconst (v := 1) hx hb dX11_dy_26 (by decide) ?_
          refine lv_goto (tgt := 31) hx hb dX11_dy_27 (by decide) ?_
          exact u_iret C h hr hQ (⟨⟨by decide, by decide⟩, t, o, (by unfold ddy; have n_ : (1 : Int32).toInt = 1 := rfl; (repeat' split) <;> omega)⟩) (Nat.le_of_ble_eq_true rfl) (Nat.le_of_ble_eq_true rfl) dX11_dy_31
    · have c7 : u0.toInt = 6 := congrArg Int32.toInt c5
      have i8 : iv u0 6 6 := iv_Q c7 hu0 (iv_k (x := 6) (k := 6) rfl) (by decide)
      refine lv_iconst (v := 0) hx hb dX11_dy_11 (by decide) ?_
      refine lv_goto (tgt := 31) hx hb dX11_dy_12 (by decide) ?_
      exact u_iret C h hr hQ (⟨⟨by decide, by decide⟩, t, o, (by unfold ddy; have n_ : (0 : Int32).toInt = 0 := rfl; (repeat' split) <;> omega)⟩) (Nat.le_of_ble_eq_true rfl) (Nat.le_of_ble_eq_true rfl) dX11_dy_31
abbrev rm_s_X11_isInsideX : Room := { frames := 0, cells := 0, slots := 0, locals := 0 }
set_option maxRecDepth 100000 in
set_option maxHeartbeats 4000000 in
theorem s_X11_isInsideX (l : Launch) (D : va_G) (G : Nat → Nat) (b0 : Nat) (τ : Nat → Nat) (f : hM) (t : TI G 9 τ f) (u0 : Int32) (hu0 : iv u0 (-2147483648) 2147483647) (u1 : Int32) (hu1 : iv u1 (-2147483648) 2147483647) (u2 : Int32) (hu2 : iv u2 (-2147483648) 2147483647) : mI l yX11_isInside cX11_isInside 3 (.boolean) rm_s_X11_isInsideX D G b0 f [.int u0, .int u1, .int u2] (fun r f1 => iv r 0 1 ∧ TI G 9 τ f1 ∧ Fr [] τ f f1 ∧ (r.toInt ≠ 0 → (insd u0.toInt u1.toInt u2.toInt)) ∧ (r.toInt = 0 → (¬ insd u0.toInt u1.toInt u2.toInt))) := by
  refine met2 (own := RX11) (by decide) rfl (Nat.le_of_ble_eq_true rfl) ?_
  intro p e s m args below meth c ls Q hQ C hr hini hl h
  have hl : lv_has ls 3 [(0, .int u0), (1, .int u1), (2, .int u2)] := hl
  obtain ⟨hx, hb, hml, hown, hts, hE0, hlk⟩ := id C
  have o := Fr.rf [] τ f
  refine lv_iload_n hx hb dX11_isInside_0 rfl (lv_at hl 0 rfl) ?_
  rcases sw_0_3 u0 with c1 | c1 | c1 | c1 | c1
  · refine lv_tableIn (tgt := 32) hx hb dX11_isInside_1 (by rw [c1]; decide) (by rw [c1]; decide) (off := 31) (by rw [c1]; rfl) (by decide) ?_
    have i2 : iv u0 0 0 := by rw [c1]; exact iv_k rfl
    refine lv_iload_n hx hb dX11_isInside_32 rfl (lv_at hl 1 rfl) ?_
    refine lv_if_lt (tgt := 44) hx hb dX11_isInside_33 (by decide) (fun c6 => ?_) (fun c6 => ?_)
    · have c7 : u1.toInt < 0 := Int32.lt_iff_toInt_lt.mp c6
      have i8 : iv u1 (-2147483648) (-1) := iv_Ll c7 hu1 (iv_k (x := 0) (k := 0) rfl) (by decide)
      refine lv_iconst (v := 0) hx hb dX11_isInside_44 (by decide) ?_
      exact u_zret C h hr hQ ⟨by decide, by decide⟩ (⟨⟨by decide, by decide⟩, t, o, (fun h_ => absurd h_ (by decide)), (fun _ => (by omega))⟩) (Nat.le_of_ble_eq_true rfl) (Nat.le_of_ble_eq_true rfl) dX11_isInside_45
    · have c9 : 0 ≤ u1.toInt := Int32.le_iff_toInt_le.mp (iv_nlt c6)
      have i10 : iv u1 0 2147483647 := iv_Er c9 (iv_k (x := 0) (k := 0) rfl) hu1 (by decide)
      refine lv_iload_n hx hb dX11_isInside_36 rfl (lv_at hl 2 rfl) ?_
      refine lv_if_lt (tgt := 44) hx hb dX11_isInside_37 (by decide) (fun c11 => ?_) (fun c11 => ?_)
      · have c12 : u2.toInt < 0 := Int32.lt_iff_toInt_lt.mp c11
        have i13 : iv u2 (-2147483648) (-1) := iv_Ll c12 hu2 (iv_k (x := 0) (k := 0) rfl) (by decide)
        refine lv_iconst (v := 0) hx hb dX11_isInside_44 (by decide) ?_
        exact u_zret C h hr hQ ⟨by decide, by decide⟩ (⟨⟨by decide, by decide⟩, t, o, (fun h_ => absurd h_ (by decide)), (fun _ => (by omega))⟩) (Nat.le_of_ble_eq_true rfl) (Nat.le_of_ble_eq_true rfl) dX11_isInside_45
      · have c14 : 0 ≤ u2.toInt := Int32.le_iff_toInt_le.mp (iv_nlt c11)
        have i15 : iv u2 0 2147483647 := iv_Er c14 (iv_k (x := 0) (k := 0) rfl) hu2 (by decide)
        refine lv_iconst (v := 1) hx hb dX11_isInside_40 (by decide) ?_
        refine lv_goto (tgt := 45) hx hb dX11_isInside_41 (by decide) ?_
        exact u_zret C h hr hQ ⟨by decide, by decide⟩ (⟨⟨by decide, by decide⟩, t, o, (fun _ => (by omega)), (fun h_ => absurd h_ (by decide))⟩) (Nat.le_of_ble_eq_true rfl) (Nat.le_of_ble_eq_true rfl) dX11_isInside_45
  · refine lv_tableIn (tgt := 46) hx hb dX11_isInside_1 (by rw [c1]; decide) (by rw [c1]; decide) (off := 45) (by rw [c1]; rfl) (by decide) ?_
    have i3 : iv u0 1 1 := by rw [c1]; exact iv_k rfl
    refine lv_iload_n hx hb dX11_isInside_46 rfl (lv_at hl 2 rfl) ?_
    refine lv_if_lt (tgt := 54) hx hb dX11_isInside_47 (by decide) (fun c16 => ?_) (fun c16 => ?_)
    · have c17 : u2.toInt < 0 := Int32.lt_iff_toInt_lt.mp c16
      have i18 : iv u2 (-2147483648) (-1) := iv_Ll c17 hu2 (iv_k (x := 0) (k := 0) rfl) (by decide)
      refine lv_iconst (v := 0) hx hb dX11_isInside_54 (by decide) ?_
      exact u_zret C h hr hQ ⟨by decide, by decide⟩ (⟨⟨by decide, by decide⟩, t, o, (fun h_ => absurd h_ (by decide)), (fun _ => (by omega))⟩) (Nat.le_of_ble_eq_true rfl) (Nat.le_of_ble_eq_true rfl) dX11_isInside_55
    · have c19 : 0 ≤ u2.toInt := Int32.le_iff_toInt_le.mp (iv_nlt c16)
      have i20 : iv u2 0 2147483647 := iv_Er c19 (iv_k (x := 0) (k := 0) rfl) hu2 (by decide)
      refine lv_iconst (v := 1) hx hb dX11_isInside_50 (by decide) ?_
      refine lv_goto (tgt := 55) hx hb dX11_isInside_51 (by decide) ?_
      exact u_zret C h hr hQ ⟨by decide, by decide⟩ (⟨⟨by decide, by decide⟩, t, o, (fun _ => (by omega)), (fun h_ => absurd h_ (by decide))⟩) (Nat.le_of_ble_eq_true rfl) (Nat.le_of_ble_eq_true rfl) dX11_isInside_55
  · refine lv_tableIn (tgt := 66) hx hb dX11_isInside_1 (by rw [c1]; decide) (by rw [c1]; decide) (off := 65) (by rw [c1]; rfl) (by decide) ?_
    have i4 : iv u0 2 2 := by rw [c1]; exact iv_k rfl
    refine lv_iconst (v := 1) hx hb dX11_isInside_66 (by decide) ?_
    exact u_zret C h hr hQ ⟨by decide, by decide⟩ (⟨⟨by decide, by decide⟩, t, o, (fun _ => (by omega)), (fun h_ => absurd h_ (by decide))⟩) (Nat.le_of_ble_eq_true rfl) (Nat.le_of_ble_eq_true rfl) dX11_isInside_67
  · refine lv_tableIn (tgt := 56) hx hb dX11_isInside_1 (by rw [c1]; decide) (by rw [c1]; decide) (off := 55) (by rw [c1]; rfl) (by decide) ?_
    have i5 : iv u0 3 3 := by rw [c1]; exact iv_k rfl
    refine lv_iload_n hx hb dX11_isInside_56 rfl (lv_at hl 1 rfl) ?_
    refine lv_if_lt (tgt := 64) hx hb dX11_isInside_57 (by decide) (fun c21 => ?_) (fun c21 => ?_)
    · have c22 : u1.toInt < 0 := Int32.lt_iff_toInt_lt.mp c21
      have i23 : iv u1 (-2147483648) (-1) := iv_Ll c22 hu1 (iv_k (x := 0) (k := 0) rfl) (by decide)
      refine lv_iconst (v := 0) hx hb dX11_isInside_64 (by decide) ?_
      exact u_zret C h hr hQ ⟨by decide, by decide⟩ (⟨⟨by decide, by decide⟩, t, o, (fun h_ => absurd h_ (by decide)), (fun _ => (by omega))⟩) (Nat.le_of_ble_eq_true rfl) (Nat.le_of_ble_eq_true rfl) dX11_isInside_65
    · have c24 : 0 ≤ u1.toInt := Int32.le_iff_toInt_le.mp (iv_nlt c21)
      have i25 : iv u1 0 2147483647 := iv_Er c24 (iv_k (x := 0) (k := 0) rfl) hu1 (by decide)
      refine lv_iconst (v := 1) hx hb dX11_isInside_60 (by decide) ?_
      refine lv_goto (tgt := 65) hx hb dX11_isInside_61 (by decide) ?_
      exact u_zret C h hr hQ ⟨by decide, by decide⟩ (⟨⟨by decide, by decide⟩, t, o, (fun _ => (by omega)), (fun h_ => absurd h_ (by decide))⟩) (Nat.le_of_ble_eq_true rfl) (Nat.le_of_ble_eq_true rfl) dX11_isInside_65
  · refine lv_tableOut (tgt := 66) hx hb dX11_isInside_1 c1 (by decide) ?_
    refine lv_iconst (v := 1) hx hb dX11_isInside_66 (by decide) ?_
    exact u_zret C h hr hQ ⟨by decide, by decide⟩ (⟨⟨by decide, by decide⟩, t, o, (fun _ => (by omega)), (fun h_ => absurd h_ (by decide))⟩) (Nat.le_of_ble_eq_true rfl) (Nat.le_of_ble_eq_true rfl) dX11_isInside_67
abbrev rm_s_X11_withX : Room := { frames := 0, cells := 0, slots := 0, locals := 0 }
set_option maxRecDepth 100000 in
set_option maxHeartbeats 4000000 in
theorem s_X11_withX (l : Launch) (D : va_G) (G : Nat → Nat) (b0 : Nat) (τ : Nat → Nat) (f : hM) (t : TI G 9 τ f) (u0 : Int64) (u1 : Int64) (u2 : Int32) (hu2 : iv u2 (-2147483648) 2147483647) (u3 : Int32) (hu3 : iv u3 (-2147483648) 2147483647) : mL l yX11_with cX11_with 6 rm_s_X11_withX D G b0 f [.long u0, .long u1, .int u2, .int u3] (fun r f1 => TI G 9 τ f1 ∧ Fr [] τ f f1 ∧ (r = wth u0 u1 u2 u3.toInt)) := by
  refine met2 (own := RX11) (by decide) rfl (Nat.le_of_ble_eq_true rfl) ?_
  intro p e s m args below meth c ls Q hQ C hr hini hl h
  have hl : lv_has ls 6 [(0, .long u0), (2, .long u1), (4, .int u2), (5, .int u3)] := hl
  obtain ⟨hx, hb, hml, hown, hts, hE0, hlk⟩ := id C
  have o := Fr.rf [] τ f
  refine lv_iload hx hb dX11_with_0 (lv_at hl 3 rfl) ?_
  rcases sw_1_3 u3 with c1 | c1 | c1 | c1
  · refine lv_tableIn (tgt := 28) hx hb dX11_with_2 (by rw [c1]; decide) (by rw [c1]; decide) (off := 26) (by rw [c1]; rfl) (by decide) ?_
    have i2 : iv u3 1 1 := by rw [c1]; exact iv_k rfl
    refine lv_lload_n hx hb dX11_with_28 rfl (lv_at hl 0 rfl) ?_
    refine lv_lload_n hx hb dX11_with_29 rfl (lv_at hl 1 rfl) ?_
    refine lv_iload hx hb dX11_with_30 (lv_at hl 2 rfl) ?_
    refine lv_i2l hx hb dX11_with_32 rfl (i_topL hu2 (fun w5 ew5 mw5 iw5 => ?_))
    refine lv_lmul hx hb dX11_with_33 (lv_topl (fun w6 ew6 => ?_))
    refine lv_ladd hx hb dX11_with_34 (lv_topl (fun w7 ew7 => ?_))
    refine lv_ldc2 (v := 1000003) hx hb hown (hts _ w_1719) dX11_with_35 ?_
    refine lv_lrem hx hb dX11_with_38 (by decide) (i_topl (lrem_iv (k := 1000003) rfl (by decide) (lo := -1000002) (hi := 1000002) (by decide)) (fun w8 ew8 iw8 => ?_))
    exact u_lret C h hr hQ (⟨t, o, (by unfold wth; rw [if_pos (by omega)]; rw [ew8, ew7, ew6, ew5])⟩) (Nat.le_of_ble_eq_true rfl) (Nat.le_of_ble_eq_true rfl) dX11_with_39
  · refine lv_tableIn (tgt := 40) hx hb dX11_with_2 (by rw [c1]; decide) (by rw [c1]; decide) (off := 38) (by rw [c1]; rfl) (by decide) ?_
    have i3 : iv u3 2 2 := by rw [c1]; exact iv_k rfl
    refine lv_lload_n hx hb dX11_with_40 rfl (lv_at hl 0 rfl) ?_
    refine lv_lload_n hx hb dX11_with_41 rfl (lv_at hl 1 rfl) ?_
    refine lv_iload hx hb dX11_with_42 (lv_at hl 2 rfl) ?_
    refine lv_i2l hx hb dX11_with_44 rfl (i_topL hu2 (fun w9 ew9 mw9 iw9 => ?_))
    refine lv_lmul hx hb dX11_with_45 (lv_topl (fun w10 ew10 => ?_))
    refine lv_ladd hx hb dX11_with_46 (lv_topl (fun w11 ew11 => ?_))
    exact u_lret C h hr hQ (⟨t, o, (by unfold wth; rw [if_neg (by omega), if_pos (by omega)]; rw [ew11, ew10, ew9])⟩) (Nat.le_of_ble_eq_true rfl) (Nat.le_of_ble_eq_true rfl) dX11_with_47
  · refine lv_tableIn (tgt := 48) hx hb dX11_with_2 (by rw [c1]; decide) (by rw [c1]; decide) (off := 46) (by rw [c1]; rfl) (by decide) ?_
    have i4 : iv u3 3 3 := by rw [c1]; exact iv_k rfl
    refine lv_lload_n hx hb dX11_with_48 rfl (lv_at hl 0 rfl) ?_
    refine lv_lload_n hx hb dX11_with_49 rfl (lv_at hl 1 rfl) ?_
    refine lv_ladd hx hb dX11_with_50 (lv_topl (fun w12 ew12 => ?_))
    exact u_lret C h hr hQ (⟨t, o, (by unfold wth; rw [if_neg (by omega), if_neg (by omega), if_pos (by omega)]; rw [ew12])⟩) (Nat.le_of_ble_eq_true rfl) (Nat.le_of_ble_eq_true rfl) dX11_with_51
  · refine lv_tableOut (tgt := 52) hx hb dX11_with_2 c1 (by decide) ?_
    refine lv_lconst (v := 1) hx hb dX11_with_52 (by decide) ?_
    exact u_lret C h hr hQ (⟨t, o, (by unfold wth; rw [if_neg (by omega), if_neg (by omega), if_neg (by omega)])⟩) (Nat.le_of_ble_eq_true rfl) (Nat.le_of_ble_eq_true rfl) dX11_with_53
abbrev rm_s_X11_beginsX : Room := { frames := 1, cells := 0, slots := 0, locals := 22 }
set_option maxRecDepth 100000 in
set_option maxHeartbeats 4000000 in
theorem s_X11_beginsX (l : Launch) (D : va_G) (G : Nat → Nat) (b0 : Nat) (τ : Nat → Nat) (f : hM) (t : TI G 9 τ f) (u0 : Nat) (hu0 : τ u0 = 60) (u1 : Int32) (hu1 : iv u1 0 7) (bq : Nat) (hbq : τ bq = 63) (k_u0_6 : atp f u0 (fd 6 (.ref bq))) (rb : Nat → Int32) (hRbq : atp f bq (eqc (.inl (G 1, 81, .inl rb)))) (hNG : NGs τ f u0) : mV l yX11_begins cX11_begins 3 rm_s_X11_beginsX D G b0 f [.ref u0, .int u1] (fun f1 => TI G 9 τ f1 ∧ Fr [60, 67, 60015] τ f f1 ∧ (GRp G τ f1 u0 (bgn rb u1.toInt)) ∧ (∃ gg : Int32, atp f1 u0 (fd 14 (.int gg)) ∧ iv gg 0 0 ∧ gg.toInt = 0) ∧ NGs τ f1 u0) := by
  refine met2 (own := RX11) (by decide) rfl (Nat.le_of_ble_eq_true rfl) ?_
  intro p e s m args below meth c ls Q hQ C hr hini hl h
  have hl : lv_has ls 3 [(0, .ref u0), (1, .int u1)] := hl
  obtain ⟨hx, hb, hml, hown, hts, hE0, hlk⟩ := id C
  have o := Fr.rf [60, 67, 60015] τ f
  obtain ⟨ga, gb, hab, ⟨hga, hgb⟩, k_u0_12, k_u0_13⟩ := hNG
  obtain ⟨rg, hRga⟩ := la_get t hga (by decide) wf_67
  obtain ⟨rh, hRgb⟩ := la_get t hgb (by decide) wf_67
  have L2 : ∀ (n2 : Nat) (ls : Array Slot) (f_2 : hM) (H : Heap) (locs : List Loc) (v2_2 : Int32) (g2_ga_R : Nat → Int64), 19600 - v2_2.toInt < (n2 : Int) → lv_has ls 3 [(0, .ref u0), (1, .int u1), (2, .int v2_2)] → hw D b0 s.heap f_2 H locs → TI G 9 τ f_2 → Fr [60, 67, 60015] τ f f_2 → iv v2_2 0 19600 → atp f_2 u0 (fd 6 (.ref bq)) → atp f_2 bq (eqc (.inl (G 1, 81, .inl rb))) → atp f_2 u0 (fd 12 (.ref ga)) → atp f_2 u0 (fd 13 (.ref gb)) → atp f_2 ga (lrw G 19600 g2_ga_R) → atp f_2 gb (lrw G 19600 rh) → (∀ k : Nat, g2_ga_R k = if (k : Int) < v2_2.toInt then 0 else rg k) → W p l e rm_s_X11_beginsX s m args below meth c H locs 0 0 Q (F0 m 2 ls []) := by
    intro n2
    induction n2 with
    | zero => intro ls f_2 H locs v2_2 g2_ga_R hm2 hl h t_2 o_2 iv2_2 k2_u0_6 k2_bq_R k2_u0_12 k2_u0_13 k2_ga_R k2_gb_R hv2_0; exact absurd hm2 (by omega)
    | succ n2 ih2 =>
      intro ls f_2 H locs v2_2 g2_ga_R hm2 hl h t_2 o_2 iv2_2 k2_u0_6 k2_bq_R k2_u0_12 k2_u0_13 k2_ga_R k2_gb_R hv2_0
      refine lv_iload_n hx hb dX11_begins_2 rfl (lv_at hl 2 rfl) ?_
      refine lv_sipush (v := 19600) hx hb dX11_begins_3 (by decide) ?_
      refine lv_icmp_ge (tgt := 22) hx hb dX11_begins_6 (by decide) (fun c1 => ?_) (fun c1 => ?_)
      · have c2 : 19600 ≤ v2_2.toInt := Int32.le_iff_toInt_le.mp c1
        have i3 : iv v2_2 19600 19600 := iv_Er c2 (iv_k (x := 19600) (k := 19600) rfl) iv2_2 (by decide)
        refine lv_aload_n hx hb dX11_begins_22 rfl (lv_at hl 0 rfl) ?_
        refine t_getfd C h t_2 hu0 (by decide) wf_60 (v := .ref ga) k2_u0_12 fl_X11_29 dX11_begins_23 ?_
        refine lv_aload_n hx hb dX11_begins_26 rfl (lv_at hl 0 rfl) ?_
        refine lv_iload_n hx hb dX11_begins_27 rfl (lv_at hl 1 rfl) ?_
        refine lv_bipush (v := 8) hx hb dX11_begins_28 (by decide) ?_
        obtain ⟨_, r6⟩ := t_rec t_2 hu0 (by decide) wf_60
        refine k_i (r_V C h hl (As := [.int u1, .int 8]) (rest := [.ref ga]) (s_X11_weightOfX l D G b0 τ f_2 t_2 u0 hu0 u1 hu1 8 (iv_w (iv_k (x := 8) (k := 8) rfl) (by decide)) bq hbq k2_u0_6 rb k2_bq_R) r6 (Cn := RX11) (T := TX11) (N := 32) rfl rfl mk_X11_weightOf w_1631 w_1633 w_52 w_1634 ⟨Nat.le_of_ble_eq_true rfl, Nat.le_of_ble_eq_true rfl⟩ rfl (Nat.le_of_ble_eq_true rfl) ⟨Nat.le_of_ble_eq_true rfl, Nat.le_of_ble_eq_true rfl⟩ rfl dX11_begins_30) h (fun r7 f8 H locs p9 h => ?_)
        have n10 : (8 : Int32).toInt = 8 := rfl
        obtain ⟨ir7, tf8, ogf8, x0r7, x1r7⟩ := p9
        have x0r7 : r7 = (rb (10 * u1.toInt + 8).toNat) := x0r7
        have x1r7 : r7.toInt = (rb (10 * u1.toInt + 8).toNat).toInt := x1r7
        have egf8 := Fr.nil2 ogf8
        subst egf8
        have mx_ : r7.toInt = (rb (10 * u1.toInt + 8).toNat).toInt := x1r7
        refine lv_aload_n hx hb dX11_begins_33 rfl (lv_at hl 0 rfl) ?_
        refine lv_iload_n hx hb dX11_begins_34 rfl (lv_at hl 1 rfl) ?_
        refine lv_bipush (v := 9) hx hb dX11_begins_35 (by decide) ?_
        obtain ⟨_, r11⟩ := t_rec t_2 hu0 (by decide) wf_60
        refine k_i (r_V C h hl (As := [.int u1, .int 9]) (rest := [.int r7, .ref ga]) (s_X11_weightOfX l D G b0 τ f_2 t_2 u0 hu0 u1 hu1 9 (iv_w (iv_k (x := 9) (k := 9) rfl) (by decide)) bq hbq k2_u0_6 rb k2_bq_R) r11 (Cn := RX11) (T := TX11) (N := 32) rfl rfl mk_X11_weightOf w_1631 w_1633 w_52 w_1634 ⟨Nat.le_of_ble_eq_true rfl, Nat.le_of_ble_eq_true rfl⟩ rfl (Nat.le_of_ble_eq_true rfl) ⟨Nat.le_of_ble_eq_true rfl, Nat.le_of_ble_eq_true rfl⟩ rfl dX11_begins_37) h (fun r12 f13 H locs p14 h => ?_)
        have n15 : (9 : Int32).toInt = 9 := rfl
        obtain ⟨ir12, tf13, ogf13, x0r12, x1r12⟩ := p14
        have x0r12 : r12 = (rb (10 * u1.toInt + 9).toNat) := x0r12
        have x1r12 : r12.toInt = (rb (10 * u1.toInt + 9).toNat).toInt := x1r12
        have egf13 := Fr.nil2 ogf13
        subst egf13
        have my_ : r12.toInt = (rb (10 * u1.toInt + 9).toNat).toInt := x1r12
        refine k_i (r_S C h hl (As := [.int r7, .int r12]) (rest := [.ref ga]) (s_X11_cell l D G b0 τ f_2 t_2 r7 (iv_w ir7 (by decide)) r12 (iv_w ir12 (by decide))) mk_X11_cell w_1706 w_1707 w_1708 ⟨Nat.le_of_ble_eq_true rfl, Nat.le_of_ble_eq_true rfl⟩ rfl (Nat.le_of_ble_eq_true rfl) ⟨Nat.le_of_ble_eq_true rfl, Nat.le_of_ble_eq_true rfl⟩ rfl dX11_begins_40) h (fun r16 f17 H locs p18 h => ?_)
        obtain ⟨ir16, tf17, ogf17, x0r16⟩ := p18
        have egf17 := Fr.nil2 ogf17
        subst egf17
        have cqr16 : r16.toInt.toNat = cel r7.toInt r12.toInt := by unfold cel; omega
        refine lv_lconst (v := 1) hx hb dX11_begins_43 (by decide) ?_
        refine e_last C h t_2 o_2 hga (by decide) (by decide) wf_67 fw_67 k2_ga_R (x := 1) (iv_in ir16 (by decide)) dX11_begins_44 (fun R21 f19 erR21 H locs h tf19 of19 hq hn_ k20 => ?_)
        have k22 := atp.tg k2_u0_6 hq hu0 (by decide)
        have k23 := atp.tg k2_bq_R hq hbq (by decide)
        have k24 := atp.tg k2_u0_12 hq hu0 (by decide)
        have k25 := atp.tg k2_u0_13 hq hu0 (by decide)
        have k27 := atp.tr k2_gb_R (hn_ gb hab.symm)
        refine lv_aload_n hx hb dX11_begins_45 rfl (lv_at hl 0 rfl) ?_
        refine lv_iconst (v := 0) hx hb dX11_begins_46 (by decide) ?_
        refine t_put C h tf19 of19 hu0 (by decide) (by decide) (by decide) wf_60 fw_60 (k := 14) rfl flw_X11_209 (Or.inr ⟨_, _, _, rfl, rfl⟩) (v := .int 0) rfl rfl ⟨_, rfl, ⟨by decide, by decide⟩⟩ dX11_begins_47 (fun f28 H locs h tf28 of28 hq ha_ hn_ hk_ => ?_)
        have k29 := hk_ 6 _ (by decide) k22
        have k30 := atp.tg k23 hq hbq (by decide)
        have k31 := hk_ 12 _ (by decide) k24
        have k32 := hk_ 13 _ (by decide) k25
        have k33 := atp.tg k27 hq hgb (by decide)
        have k34 := atp.tg k20 hq hga (by decide)
        have k35 := ha_
        exact u_vret C h hr hQ (⟨tf28, of28, ⟨ga, gb, R21, rh, hab, ⟨hga, hgb⟩, k31, k32, k34, k33, fun k hk => by
            rw [erR21]; unfold bgn; by_cases q_ : k = r16.toInt.toNat
            · rw [updL_at q_, if_pos (by rw [q_, cqr16, mx_, my_])]
            · rw [updL_off q_, hv2_0 k, if_pos (by omega), if_neg (fun z_ => q_ (by rw [z_, cqr16, mx_, my_]))]⟩, ⟨0, k35, ⟨by decide, by decide⟩, (by decide)⟩, ⟨ga, gb, hab, ⟨hga, hgb⟩, k31, k32⟩⟩) (Nat.le_of_ble_eq_true rfl) (Nat.le_of_ble_eq_true rfl) dX11_begins_50
      · have c4 : v2_2.toInt < 19600 := Int32.lt_iff_toInt_lt.mp (iv_nle c1)
        have i5 : iv v2_2 0 19599 := iv_Ll c4 iv2_2 (iv_k (x := 19600) (k := 19600) rfl) (by decide)
        refine lv_aload_n hx hb dX11_begins_9 rfl (lv_at hl 0 rfl) ?_
        refine t_getfd C h t_2 hu0 (by decide) wf_60 (v := .ref ga) k2_u0_12 fl_X11_29 dX11_begins_10 ?_
        refine lv_iload_n hx hb dX11_begins_13 rfl (lv_at hl 2 rfl) ?_
        refine lv_lconst (v := 0) hx hb dX11_begins_14 (by decide) ?_
        refine e_last C h t_2 o_2 hga (by decide) (by decide) wf_67 fw_67 k2_ga_R (x := 0) (iv_in i5 (by decide)) dX11_begins_15 (fun R38 f36 erR38 H locs h tf36 of36 hq hn_ k37 => ?_)
        have k39 := atp.tg k2_u0_6 hq hu0 (by decide)
        have k40 := atp.tg k2_bq_R hq hbq (by decide)
        have k41 := atp.tg k2_u0_12 hq hu0 (by decide)
        have k42 := atp.tg k2_u0_13 hq hu0 (by decide)
        have k44 := atp.tr k2_gb_R (hn_ gb hab.symm)
        refine i_inc hx hb dX11_begins_16 hl (k := 2) rfl i5 rfl (lo := 1) (hi := 19600) (by decide) (by decide) (lv' := fun v => [(2, .int v), (0, .ref u0), (1, .int u1)]) (fun _ => rfl) (fun z45 ls ez45 mz45 iz45 hl => ?_)
        refine lv_goto (tgt := 2) hx hb dX11_begins_19 (by decide) ?_
        exact ih2 ls f36 H locs z45 R38 (show 19600 - z45.toInt < _ by omega) (lv_cons hl 1 rfl (lv_cons hl 2 rfl (lv_cons hl 0 rfl (lv_nil hl)))) h tf36 of36 (iv_w iz45 (by decide)) k39 k40 k41 k42 k37 k44 (show ∀ k : Nat, R38 k = if (k : Int) < z45.toInt then 0 else rg k from (by
            intro k; rw [erR38]; by_cases q_ : k = v2_2.toInt.toNat
            · rw [updL_at q_]; (repeat' split) <;> first | rfl | (exfalso; omega)
            · rw [updL_off q_, hv2_0 k]; (repeat' split) <;> first | rfl | (exfalso; omega)))
  refine lv_iconst (v := 0) hx hb dX11_begins_0 (by decide) ?_
  refine lv_istore_n (lv' := [(2, .int 0), (0, .ref u0), (1, .int u1)]) hx hb dX11_begins_1 rfl hl (by decide) rfl (fun ls hl => ?_)
  exact L2 19601 ls f s.heap [] 0 rg (by decide) (lv_cons hl 1 rfl (lv_cons hl 2 rfl (lv_cons hl 0 rfl (lv_nil hl)))) h t o ⟨by decide, by decide⟩ k_u0_6 hRbq k_u0_12 k_u0_13 hRga hRgb (show ∀ k : Nat, rg k = if (k : Int) < 0 then 0 else rg k from (by
      intro k; (repeat' split) <;> first | rfl | (exfalso; omega)))
