
set_option maxRecDepth 100000 in
set_option maxHeartbeats 4000000 in
theorem c_X10_drop (l : Launch) (D : va_G) (G : Nat → Nat) (b0 : Nat) (f : hM) (bm : Nat) (X : Nat → Nat) (hX : xw G f X) (hB : ∀ i, i < 20 → X i < bm) (p0 : Int32) : mI l yX10_drop cX10_drop 2 (.int) { frames := 2, cells := 0, slots := 0, locals := 43 } D G b0 f [.ref (X 0), .int p0] (fun r f1 => (-1 : Int32) = r ∧ ∀ q, bm ≤ q → f1 q = f q) := by
  refine met_of (own := RX10) (by decide) rfl (Nat.le_of_ble_eq_true rfl) ?_
  intro p e s m below meth c ls C hr hini hl h
  have hl : lv_has ls 2 [(0, .ref (X 0)), (1, .int p0)] := hl
  obtain ⟨hx, hb, hml, hown, hts, hE0, hlk⟩ := id C
  obtain ⟨kx0, kx1, kx2, kx3, kx4, kx5, kx6, kx7, kx8, kx9⟩ := hX
  refine lv_aload_n hx hb dX10_drop_0 rfl (lv_at hl 0 rfl) ?_
  refine q_get C h kx0 fl_X10_19 (v := .ref (X 2)) rfl dX10_drop_1 ?_
  refine lv_iload_n hx hb dX10_drop_4 rfl (lv_at hl 1 rfl) ?_
  refine k_q (r_V C h hl (As := [.int p0]) (rest := []) (c_X0_find l D G b0 f X ⟨kx0, kx1, kx2, kx3, kx4, kx5, kx6, kx7, kx8, kx9⟩ p0) kx2 (Cn := RX0) (T := TX0) (N := 6) rfl rfl mk_X0_find w_594 w_595 w_596 w_597 ⟨Nat.le_of_ble_eq_true rfl, Nat.le_of_ble_eq_true rfl⟩ rfl (Nat.le_of_ble_eq_true rfl) ⟨Nat.le_of_ble_eq_true rfl, Nat.le_of_ble_eq_true rfl⟩ rfl dX10_drop_5) h (fun r_35 f_36 H locs p_37 h => ?_)
  obtain ⟨rfl, rfl⟩ := p_37
  refine lv_ifnonnullN hx hb dX10_drop_8 ?_
  refine lv_aload_n hx hb dX10_drop_11 rfl (lv_at hl 0 rfl) ?_
  refine lv_iconst (v := 0) hx hb dX10_drop_12 (by decide) ?_
  refine k_i (r_V C h hl (As := [.int 0]) (rest := []) (c_X10_refuse l D G b0 f bm X ⟨kx0, kx1, kx2, kx3, kx4, kx5, kx6, kx7, kx8, kx9⟩ hB ) kx0 (Cn := RX10) (T := TX10) (N := 10) rfl rfl mk_X10_refuse w_519 w_521 w_8 w_522 ⟨Nat.le_of_ble_eq_true rfl, Nat.le_of_ble_eq_true rfl⟩ rfl (Nat.le_of_ble_eq_true rfl) ⟨Nat.le_of_ble_eq_true rfl, Nat.le_of_ble_eq_true rfl⟩ rfl dX10_drop_13) h (fun r_38 f_39 H locs p_40 h => ?_)
  obtain ⟨rfl, p_40⟩ := p_40
  exact q_iret C h hr (⟨rfl, fun q hq => (p_40 q hq)⟩) (Nat.le_of_ble_eq_true rfl) (Nat.le_of_ble_eq_true rfl) dX10_drop_16
set_option maxRecDepth 100000 in
set_option maxHeartbeats 4000000 in
theorem c_X10_mirror (l : Launch) (D : va_G) (G : Nat → Nat) (b0 : Nat) (f : hM) (bm : Nat) (X : Nat → Nat) (hX : xw G f X) (hB : ∀ i, i < 20 → X i < bm) (p0 : Int32) : mI l yX10_mirror cX10_mirror 3 (.int) { frames := 2, cells := 0, slots := 0, locals := 43 } D G b0 f [.ref (X 0), .int p0] (fun r f1 => (-1 : Int32) = r ∧ ∀ q, bm ≤ q → f1 q = f q) := by
  refine met_of (own := RX10) (by decide) rfl (Nat.le_of_ble_eq_true rfl) ?_
  intro p e s m below meth c ls C hr hini hl h
  have hl : lv_has ls 3 [(0, .ref (X 0)), (1, .int p0)] := hl
  obtain ⟨hx, hb, hml, hown, hts, hE0, hlk⟩ := id C
  obtain ⟨kx0, kx1, kx2, kx3, kx4, kx5, kx6, kx7, kx8, kx9⟩ := hX
  refine lv_aload_n hx hb dX10_mirror_0 rfl (lv_at hl 0 rfl) ?_
  refine q_get C h kx0 fl_X10_19 (v := .ref (X 2)) rfl dX10_mirror_1 ?_
  refine lv_iload_n hx hb dX10_mirror_4 rfl (lv_at hl 1 rfl) ?_
  refine k_q (r_V C h hl (As := [.int p0]) (rest := []) (c_X0_find l D G b0 f X ⟨kx0, kx1, kx2, kx3, kx4, kx5, kx6, kx7, kx8, kx9⟩ p0) kx2 (Cn := RX0) (T := TX0) (N := 6) rfl rfl mk_X0_find w_594 w_595 w_596 w_597 ⟨Nat.le_of_ble_eq_true rfl, Nat.le_of_ble_eq_true rfl⟩ rfl (Nat.le_of_ble_eq_true rfl) ⟨Nat.le_of_ble_eq_true rfl, Nat.le_of_ble_eq_true rfl⟩ rfl dX10_mirror_5) h (fun r_41 f_42 H locs p_43 h => ?_)
  obtain ⟨rfl, rfl⟩ := p_43
  refine lv_astore_nN (lv' := [(2, .null), (0, .ref (X 0)), (1, .int p0)]) hx hb dX10_mirror_8 rfl hl (by decide) rfl (fun ls hl => ?_)
  refine lv_aload_nN hx hb dX10_mirror_9 rfl (lv_at hl 0 rfl) ?_
  refine lv_ifnonnullN hx hb dX10_mirror_10 ?_
  refine lv_aload_n hx hb dX10_mirror_13 rfl (lv_at hl 1 rfl) ?_
  refine lv_iconst (v := 0) hx hb dX10_mirror_14 (by decide) ?_
  refine k_i (r_V C h hl (As := [.int 0]) (rest := []) (c_X10_refuse l D G b0 f bm X ⟨kx0, kx1, kx2, kx3, kx4, kx5, kx6, kx7, kx8, kx9⟩ hB ) kx0 (Cn := RX10) (T := TX10) (N := 10) rfl rfl mk_X10_refuse w_519 w_521 w_8 w_522 ⟨Nat.le_of_ble_eq_true rfl, Nat.le_of_ble_eq_true rfl⟩ rfl (Nat.le_of_ble_eq_true rfl) ⟨Nat.le_of_ble_eq_true rfl, Nat.le_of_ble_eq_true rfl⟩ rfl dX10_mirror_15) h (fun r_44 f_45 H locs p_46 h => ?_)
  obtain ⟨rfl, p_46⟩ := p_46
  refine lv_goto (tgt := 37) hx hb dX10_mirror_18 (by decide) ?_
  exact q_iret C h hr (⟨rfl, fun q hq => (p_46 q hq)⟩) (Nat.le_of_ble_eq_true rfl) (Nat.le_of_ble_eq_true rfl) dX10_mirror_37
set_option maxRecDepth 100000 in
set_option maxHeartbeats 4000000 in
theorem c_X10_turn (l : Launch) (D : va_G) (G : Nat → Nat) (b0 : Nat) (f : hM) (bm : Nat) (X : Nat → Nat) (hX : xw G f X) (hB : ∀ i, i < 20 → X i < bm) (p0 : Int32) : mI l yX10_turn cX10_turn 3 (.int) { frames := 2, cells := 0, slots := 0, locals := 43 } D G b0 f [.ref (X 0), .int p0] (fun r f1 => (-1 : Int32) = r ∧ ∀ q, bm ≤ q → f1 q = f q) := by
  refine met_of (own := RX10) (by decide) rfl (Nat.le_of_ble_eq_true rfl) ?_
  intro p e s m below meth c ls C hr hini hl h
  have hl : lv_has ls 3 [(0, .ref (X 0)), (1, .int p0)] := hl
  obtain ⟨hx, hb, hml, hown, hts, hE0, hlk⟩ := id C
  obtain ⟨kx0, kx1, kx2, kx3, kx4, kx5, kx6, kx7, kx8, kx9⟩ := hX
  refine lv_aload_n hx hb dX10_turn_0 rfl (lv_at hl 0 rfl) ?_
  refine q_get C h kx0 fl_X10_19 (v := .ref (X 2)) rfl dX10_turn_1 ?_
  refine lv_iload_n hx hb dX10_turn_4 rfl (lv_at hl 1 rfl) ?_
  refine k_q (r_V C h hl (As := [.int p0]) (rest := []) (c_X0_find l D G b0 f X ⟨kx0, kx1, kx2, kx3, kx4, kx5, kx6, kx7, kx8, kx9⟩ p0) kx2 (Cn := RX0) (T := TX0) (N := 6) rfl rfl mk_X0_find w_594 w_595 w_596 w_597 ⟨Nat.le_of_ble_eq_true rfl, Nat.le_of_ble_eq_true rfl⟩ rfl (Nat.le_of_ble_eq_true rfl) ⟨Nat.le_of_ble_eq_true rfl, Nat.le_of_ble_eq_true rfl⟩ rfl dX10_turn_5) h (fun r_47 f_48 H locs p_49 h => ?_)
  obtain ⟨rfl, rfl⟩ := p_49
  refine lv_astore_nN (lv' := [(2, .null), (0, .ref (X 0)), (1, .int p0)]) hx hb dX10_turn_8 rfl hl (by decide) rfl (fun ls hl => ?_)
  refine lv_aload_nN hx hb dX10_turn_9 rfl (lv_at hl 0 rfl) ?_
  refine lv_ifnonnullN hx hb dX10_turn_10 ?_
  refine lv_aload_n hx hb dX10_turn_13 rfl (lv_at hl 1 rfl) ?_
  refine lv_iconst (v := 0) hx hb dX10_turn_14 (by decide) ?_
  refine k_i (r_V C h hl (As := [.int 0]) (rest := []) (c_X10_refuse l D G b0 f bm X ⟨kx0, kx1, kx2, kx3, kx4, kx5, kx6, kx7, kx8, kx9⟩ hB ) kx0 (Cn := RX10) (T := TX10) (N := 10) rfl rfl mk_X10_refuse w_519 w_521 w_8 w_522 ⟨Nat.le_of_ble_eq_true rfl, Nat.le_of_ble_eq_true rfl⟩ rfl (Nat.le_of_ble_eq_true rfl) ⟨Nat.le_of_ble_eq_true rfl, Nat.le_of_ble_eq_true rfl⟩ rfl dX10_turn_15) h (fun r_50 f_51 H locs p_52 h => ?_)
  obtain ⟨rfl, p_52⟩ := p_52
  refine lv_goto (tgt := 37) hx hb dX10_turn_18 (by decide) ?_
  exact q_iret C h hr (⟨rfl, fun q hq => (p_52 q hq)⟩) (Nat.le_of_ble_eq_true rfl) (Nat.le_of_ble_eq_true rfl) dX10_turn_37
set_option maxRecDepth 100000 in
set_option maxHeartbeats 4000000 in
theorem c_X10_join (l : Launch) (D : va_G) (G : Nat → Nat) (b0 : Nat) (f : hM) (bm : Nat) (X : Nat → Nat) (hX : xw G f X) (hB : ∀ i, i < 20 → X i < bm) (p0 : Int32) (p1 : Int32) : mI l yX10_join cX10_join 7 (.int) { frames := 2, cells := 0, slots := 0, locals := 43 } D G b0 f [.ref (X 0), .int p0, .int p1] (fun r f1 => (-1 : Int32) = r ∧ ∀ q, bm ≤ q → f1 q = f q) := by
  refine met_of (own := RX10) (by decide) rfl (Nat.le_of_ble_eq_true rfl) ?_
  intro p e s m below meth c ls C hr hini hl h
  have hl : lv_has ls 7 [(0, .ref (X 0)), (1, .int p0), (2, .int p1)] := hl
  obtain ⟨hx, hb, hml, hown, hts, hE0, hlk⟩ := id C
  obtain ⟨kx0, kx1, kx2, kx3, kx4, kx5, kx6, kx7, kx8, kx9⟩ := hX
  refine lv_aload_n hx hb dX10_join_0 rfl (lv_at hl 0 rfl) ?_
  refine q_get C h kx0 fl_X10_19 (v := .ref (X 2)) rfl dX10_join_1 ?_
  refine lv_iload_n hx hb dX10_join_4 rfl (lv_at hl 1 rfl) ?_
  refine k_q (r_V C h hl (As := [.int p0]) (rest := []) (c_X0_find l D G b0 f X ⟨kx0, kx1, kx2, kx3, kx4, kx5, kx6, kx7, kx8, kx9⟩ p0) kx2 (Cn := RX0) (T := TX0) (N := 6) rfl rfl mk_X0_find w_594 w_595 w_596 w_597 ⟨Nat.le_of_ble_eq_true rfl, Nat.le_of_ble_eq_true rfl⟩ rfl (Nat.le_of_ble_eq_true rfl) ⟨Nat.le_of_ble_eq_true rfl, Nat.le_of_ble_eq_true rfl⟩ rfl dX10_join_5) h (fun r_53 f_54 H locs p_55 h => ?_)
  obtain ⟨rfl, rfl⟩ := p_55
  refine lv_astore_nN (lv' := [(3, .null), (0, .ref (X 0)), (1, .int p0), (2, .int p1)]) hx hb dX10_join_8 rfl hl (by decide) rfl (fun ls hl => ?_)
  refine lv_aload_n hx hb dX10_join_9 rfl (lv_at hl 1 rfl) ?_
  refine q_get C h kx0 fl_X10_19 (v := .ref (X 2)) rfl dX10_join_10 ?_
  refine lv_iload_n hx hb dX10_join_13 rfl (lv_at hl 3 rfl) ?_
  refine k_q (r_V C h hl (As := [.int p1]) (rest := []) (c_X0_find l D G b0 f X ⟨kx0, kx1, kx2, kx3, kx4, kx5, kx6, kx7, kx8, kx9⟩ p1) kx2 (Cn := RX0) (T := TX0) (N := 6) rfl rfl mk_X0_find w_594 w_595 w_596 w_597 ⟨Nat.le_of_ble_eq_true rfl, Nat.le_of_ble_eq_true rfl⟩ rfl (Nat.le_of_ble_eq_true rfl) ⟨Nat.le_of_ble_eq_true rfl, Nat.le_of_ble_eq_true rfl⟩ rfl dX10_join_14) h (fun r_56 f_57 H locs p_58 h => ?_)
  obtain ⟨rfl, rfl⟩ := p_58
  refine lv_astoreN (lv' := [(4, .null), (3, .null), (0, .ref (X 0)), (1, .int p0), (2, .int p1)]) hx hb dX10_join_17 hl (by decide) rfl (fun ls hl => ?_)
  refine lv_aload_nN hx hb dX10_join_19 rfl (lv_at hl 1 rfl) ?_
  refine lv_ifnullN (tgt := 28) hx hb dX10_join_20 (by decide) ?_
  refine lv_aload_n hx hb dX10_join_28 rfl (lv_at hl 2 rfl) ?_
  refine lv_iconst (v := 0) hx hb dX10_join_29 (by decide) ?_
  refine k_i (r_V C h hl (As := [.int 0]) (rest := []) (c_X10_refuse l D G b0 f bm X ⟨kx0, kx1, kx2, kx3, kx4, kx5, kx6, kx7, kx8, kx9⟩ hB ) kx0 (Cn := RX10) (T := TX10) (N := 10) rfl rfl mk_X10_refuse w_519 w_521 w_8 w_522 ⟨Nat.le_of_ble_eq_true rfl, Nat.le_of_ble_eq_true rfl⟩ rfl (Nat.le_of_ble_eq_true rfl) ⟨Nat.le_of_ble_eq_true rfl, Nat.le_of_ble_eq_true rfl⟩ rfl dX10_join_30) h (fun r_59 f_60 H locs p_61 h => ?_)
  obtain ⟨rfl, p_61⟩ := p_61
  exact q_iret C h hr (⟨rfl, fun q hq => (p_61 q hq)⟩) (Nat.le_of_ble_eq_true rfl) (Nat.le_of_ble_eq_true rfl) dX10_join_33
set_option maxRecDepth 100000 in
set_option maxHeartbeats 4000000 in
theorem c_X10_scale (l : Launch) (D : va_G) (G : Nat → Nat) (b0 : Nat) (f : hM) (bm : Nat) (X : Nat → Nat) (hX : xw G f X) (hB : ∀ i, i < 20 → X i < bm) (p0 : Int32) (p1 : Int32) : mI l yX10_scale cX10_scale 6 (.int) { frames := 2, cells := 0, slots := 0, locals := 43 } D G b0 f [.ref (X 0), .int p0, .int p1] (fun r f1 => (-1 : Int32) = r ∧ ∀ q, bm ≤ q → f1 q = f q) := by
  refine met_of (own := RX10) (by decide) rfl (Nat.le_of_ble_eq_true rfl) ?_
  intro p e s m below meth c ls C hr hini hl h
  have hl : lv_has ls 6 [(0, .ref (X 0)), (1, .int p0), (2, .int p1)] := hl
  obtain ⟨hx, hb, hml, hown, hts, hE0, hlk⟩ := id C
  obtain ⟨kx0, kx1, kx2, kx3, kx4, kx5, kx6, kx7, kx8, kx9⟩ := hX
  refine lv_aload_n hx hb dX10_scale_0 rfl (lv_at hl 0 rfl) ?_
  refine q_get C h kx0 fl_X10_19 (v := .ref (X 2)) rfl dX10_scale_1 ?_
  refine lv_iload_n hx hb dX10_scale_4 rfl (lv_at hl 1 rfl) ?_
  refine k_q (r_V C h hl (As := [.int p0]) (rest := []) (c_X0_find l D G b0 f X ⟨kx0, kx1, kx2, kx3, kx4, kx5, kx6, kx7, kx8, kx9⟩ p0) kx2 (Cn := RX0) (T := TX0) (N := 6) rfl rfl mk_X0_find w_594 w_595 w_596 w_597 ⟨Nat.le_of_ble_eq_true rfl, Nat.le_of_ble_eq_true rfl⟩ rfl (Nat.le_of_ble_eq_true rfl) ⟨Nat.le_of_ble_eq_true rfl, Nat.le_of_ble_eq_true rfl⟩ rfl dX10_scale_5) h (fun r_62 f_63 H locs p_64 h => ?_)
  obtain ⟨rfl, rfl⟩ := p_64
  refine lv_astore_nN (lv' := [(3, .null), (0, .ref (X 0)), (1, .int p0), (2, .int p1)]) hx hb dX10_scale_8 rfl hl (by decide) rfl (fun ls hl => ?_)
  refine lv_aload_nN hx hb dX10_scale_9 rfl (lv_at hl 0 rfl) ?_
  refine lv_ifnonnullN hx hb dX10_scale_10 ?_
  refine lv_aload_n hx hb dX10_scale_13 rfl (lv_at hl 1 rfl) ?_
  refine lv_iconst (v := 0) hx hb dX10_scale_14 (by decide) ?_
  refine k_i (r_V C h hl (As := [.int 0]) (rest := []) (c_X10_refuse l D G b0 f bm X ⟨kx0, kx1, kx2, kx3, kx4, kx5, kx6, kx7, kx8, kx9⟩ hB ) kx0 (Cn := RX10) (T := TX10) (N := 10) rfl rfl mk_X10_refuse w_519 w_521 w_8 w_522 ⟨Nat.le_of_ble_eq_true rfl, Nat.le_of_ble_eq_true rfl⟩ rfl (Nat.le_of_ble_eq_true rfl) ⟨Nat.le_of_ble_eq_true rfl, Nat.le_of_ble_eq_true rfl⟩ rfl dX10_scale_15) h (fun r_65 f_66 H locs p_67 h => ?_)
  obtain ⟨rfl, p_67⟩ := p_67
  exact q_iret C h hr (⟨rfl, fun q hq => (p_67 q hq)⟩) (Nat.le_of_ble_eq_true rfl) (Nat.le_of_ble_eq_true rfl) dX10_scale_18
set_option maxRecDepth 100000 in
set_option maxHeartbeats 4000000 in
theorem c_X10_weigh (l : Launch) (D : va_G) (G : Nat → Nat) (b0 : Nat) (f : hM) (bm : Nat) (X : Nat → Nat) (hX : xw G f X) (hB : ∀ i, i < 20 → X i < bm) (p0 : Int32) (p1 : Int32) (p2 : Int32) : mI l yX10_weigh cX10_weigh 7 (.int) { frames := 2, cells := 0, slots := 0, locals := 43 } D G b0 f [.ref (X 0), .int p0, .int p1, .int p2] (fun r f1 => (-1 : Int32) = r ∧ ∀ q, bm ≤ q → f1 q = f q) := by
  refine met_of (own := RX10) (by decide) rfl (Nat.le_of_ble_eq_true rfl) ?_
  intro p e s m below meth c ls C hr hini hl h
  have hl : lv_has ls 7 [(0, .ref (X 0)), (1, .int p0), (2, .int p1), (3, .int p2)] := hl
  obtain ⟨hx, hb, hml, hown, hts, hE0, hlk⟩ := id C
  obtain ⟨kx0, kx1, kx2, kx3, kx4, kx5, kx6, kx7, kx8, kx9⟩ := hX
  refine lv_aload_n hx hb dX10_weigh_0 rfl (lv_at hl 0 rfl) ?_
  refine q_get C h kx0 fl_X10_19 (v := .ref (X 2)) rfl dX10_weigh_1 ?_
  refine lv_iload_n hx hb dX10_weigh_4 rfl (lv_at hl 1 rfl) ?_
  refine k_q (r_V C h hl (As := [.int p0]) (rest := []) (c_X0_find l D G b0 f X ⟨kx0, kx1, kx2, kx3, kx4, kx5, kx6, kx7, kx8, kx9⟩ p0) kx2 (Cn := RX0) (T := TX0) (N := 6) rfl rfl mk_X0_find w_594 w_595 w_596 w_597 ⟨Nat.le_of_ble_eq_true rfl, Nat.le_of_ble_eq_true rfl⟩ rfl (Nat.le_of_ble_eq_true rfl) ⟨Nat.le_of_ble_eq_true rfl, Nat.le_of_ble_eq_true rfl⟩ rfl dX10_weigh_5) h (fun r_68 f_69 H locs p_70 h => ?_)
  obtain ⟨rfl, rfl⟩ := p_70
  refine lv_astoreN (lv' := [(4, .null), (0, .ref (X 0)), (1, .int p0), (2, .int p1), (3, .int p2)]) hx hb dX10_weigh_8 hl (by decide) rfl (fun ls hl => ?_)
  refine lv_aloadN hx hb dX10_weigh_10 (lv_at hl 0 rfl) ?_
  refine lv_ifnonnullN hx hb dX10_weigh_12 ?_
  refine lv_aload_n hx hb dX10_weigh_15 rfl (lv_at hl 1 rfl) ?_
  refine lv_iconst (v := 0) hx hb dX10_weigh_16 (by decide) ?_
  refine k_i (r_V C h hl (As := [.int 0]) (rest := []) (c_X10_refuse l D G b0 f bm X ⟨kx0, kx1, kx2, kx3, kx4, kx5, kx6, kx7, kx8, kx9⟩ hB ) kx0 (Cn := RX10) (T := TX10) (N := 10) rfl rfl mk_X10_refuse w_519 w_521 w_8 w_522 ⟨Nat.le_of_ble_eq_true rfl, Nat.le_of_ble_eq_true rfl⟩ rfl (Nat.le_of_ble_eq_true rfl) ⟨Nat.le_of_ble_eq_true rfl, Nat.le_of_ble_eq_true rfl⟩ rfl dX10_weigh_17) h (fun r_71 f_72 H locs p_73 h => ?_)
  obtain ⟨rfl, p_73⟩ := p_73
  exact q_iret C h hr (⟨rfl, fun q hq => (p_73 q hq)⟩) (Nat.le_of_ble_eq_true rfl) (Nat.le_of_ble_eq_true rfl) dX10_weigh_20
set_option maxRecDepth 100000 in
set_option maxHeartbeats 4000000 in
theorem c_X10_start (l : Launch) (D : va_G) (G : Nat → Nat) (b0 : Nat) (f : hM) (bm : Nat) (X : Nat → Nat) (hX : xw G f X) (hB : ∀ i, i < 20 → X i < bm) (p0 : Int32) (p1 : Int32) (p2 : Int32) : mI l yX10_start cX10_start 5 (.int) { frames := 2, cells := 0, slots := 0, locals := 43 } D G b0 f [.ref (X 0), .int p0, .int p1, .int p2] (fun r f1 => (-1 : Int32) = r ∧ ∀ q, bm ≤ q → f1 q = f q) := by
  refine met_of (own := RX10) (by decide) rfl (Nat.le_of_ble_eq_true rfl) ?_
  intro p e s m below meth c ls C hr hini hl h
  have hl : lv_has ls 5 [(0, .ref (X 0)), (1, .int p0), (2, .int p1), (3, .int p2)] := hl
  obtain ⟨hx, hb, hml, hown, hts, hE0, hlk⟩ := id C
  obtain ⟨kx0, kx1, kx2, kx3, kx4, kx5, kx6, kx7, kx8, kx9⟩ := hX
  refine lv_aload_n hx hb dX10_start_0 rfl (lv_at hl 0 rfl) ?_
  refine q_get C h kx0 fl_X10_19 (v := .ref (X 2)) rfl dX10_start_1 ?_
  refine lv_iload_n hx hb dX10_start_4 rfl (lv_at hl 1 rfl) ?_
  refine k_q (r_V C h hl (As := [.int p0]) (rest := []) (c_X0_find l D G b0 f X ⟨kx0, kx1, kx2, kx3, kx4, kx5, kx6, kx7, kx8, kx9⟩ p0) kx2 (Cn := RX0) (T := TX0) (N := 6) rfl rfl mk_X0_find w_594 w_595 w_596 w_597 ⟨Nat.le_of_ble_eq_true rfl, Nat.le_of_ble_eq_true rfl⟩ rfl (Nat.le_of_ble_eq_true rfl) ⟨Nat.le_of_ble_eq_true rfl, Nat.le_of_ble_eq_true rfl⟩ rfl dX10_start_5) h (fun r_74 f_75 H locs p_76 h => ?_)
  obtain ⟨rfl, rfl⟩ := p_76
  refine lv_astoreN (lv' := [(4, .null), (0, .ref (X 0)), (1, .int p0), (2, .int p1), (3, .int p2)]) hx hb dX10_start_8 hl (by decide) rfl (fun ls hl => ?_)
  refine lv_aloadN hx hb dX10_start_10 (lv_at hl 0 rfl) ?_
  refine lv_ifnonnullN hx hb dX10_start_12 ?_
  refine lv_aload_n hx hb dX10_start_15 rfl (lv_at hl 1 rfl) ?_
  refine lv_iconst (v := 0) hx hb dX10_start_16 (by decide) ?_
  refine k_i (r_V C h hl (As := [.int 0]) (rest := []) (c_X10_refuse l D G b0 f bm X ⟨kx0, kx1, kx2, kx3, kx4, kx5, kx6, kx7, kx8, kx9⟩ hB ) kx0 (Cn := RX10) (T := TX10) (N := 10) rfl rfl mk_X10_refuse w_519 w_521 w_8 w_522 ⟨Nat.le_of_ble_eq_true rfl, Nat.le_of_ble_eq_true rfl⟩ rfl (Nat.le_of_ble_eq_true rfl) ⟨Nat.le_of_ble_eq_true rfl, Nat.le_of_ble_eq_true rfl⟩ rfl dX10_start_17) h (fun r_77 f_78 H locs p_79 h => ?_)
  obtain ⟨rfl, p_79⟩ := p_79
  exact q_iret C h hr (⟨rfl, fun q hq => (p_79 q hq)⟩) (Nat.le_of_ble_eq_true rfl) (Nat.le_of_ble_eq_true rfl) dX10_start_20
set_option maxRecDepth 100000 in
set_option maxHeartbeats 4000000 in
theorem c_X10_at (l : Launch) (D : va_G) (G : Nat → Nat) (b0 : Nat) (f : hM) (bm : Nat) (X : Nat → Nat) (hX : xw G f X) (hB : ∀ i, i < 20 → X i < bm) (p0 : Int32) (p1 : Int32) (p2 : Int32) (p3 : Int32) (p4 : Int32) : mI l yX10_at cX10_at 7 (.int) { frames := 2, cells := 0, slots := 0, locals := 43 } D G b0 f [.ref (X 0), .int p0, .int p1, .int p2, .int p3, .int p4] (fun r f1 => (-1 : Int32) = r ∧ ∀ q, bm ≤ q → f1 q = f q) := by
  refine met_of (own := RX10) (by decide) rfl (Nat.le_of_ble_eq_true rfl) ?_
  intro p e s m below meth c ls C hr hini hl h
  have hl : lv_has ls 7 [(0, .ref (X 0)), (1, .int p0), (2, .int p1), (3, .int p2), (4, .int p3), (5, .int p4)] := hl
  obtain ⟨hx, hb, hml, hown, hts, hE0, hlk⟩ := id C
  obtain ⟨kx0, kx1, kx2, kx3, kx4, kx5, kx6, kx7, kx8, kx9⟩ := hX
  refine lv_aload_n hx hb dX10_at_0 rfl (lv_at hl 0 rfl) ?_
  refine q_get C h kx0 fl_X10_19 (v := .ref (X 2)) rfl dX10_at_1 ?_
  refine lv_iload_n hx hb dX10_at_4 rfl (lv_at hl 2 rfl) ?_
  refine k_q (r_V C h hl (As := [.int p1]) (rest := []) (c_X0_find l D G b0 f X ⟨kx0, kx1, kx2, kx3, kx4, kx5, kx6, kx7, kx8, kx9⟩ p1) kx2 (Cn := RX0) (T := TX0) (N := 6) rfl rfl mk_X0_find w_594 w_595 w_596 w_597 ⟨Nat.le_of_ble_eq_true rfl, Nat.le_of_ble_eq_true rfl⟩ rfl (Nat.le_of_ble_eq_true rfl) ⟨Nat.le_of_ble_eq_true rfl, Nat.le_of_ble_eq_true rfl⟩ rfl dX10_at_5) h (fun r_80 f_81 H locs p_82 h => ?_)
  obtain ⟨rfl, rfl⟩ := p_82
  refine lv_astoreN (lv' := [(6, .null), (0, .ref (X 0)), (1, .int p0), (2, .int p1), (3, .int p2), (4, .int p3), (5, .int p4)]) hx hb dX10_at_8 hl (by decide) rfl (fun ls hl => ?_)
  refine lv_aloadN hx hb dX10_at_10 (lv_at hl 0 rfl) ?_
  refine lv_ifnullN (tgt := 41) hx hb dX10_at_12 (by decide) ?_
  refine lv_iconst (v := -1) hx hb dX10_at_41 (by decide) ?_
  exact q_iret C h hr (⟨rfl, fun q hq => rfl⟩) (Nat.le_of_ble_eq_true rfl) (Nat.le_of_ble_eq_true rfl) dX10_at_42
set_option maxRecDepth 100000 in
set_option maxHeartbeats 4000000 in
theorem c_X10_series (l : Launch) (D : va_G) (G : Nat → Nat) (b0 : Nat) (f : hM) (bm : Nat) (X : Nat → Nat) (hX : xw G f X) (hB : ∀ i, i < 20 → X i < bm) (p0 : Int32) (p1 : Int32) (p2 : Int32) : mI l yX10_series cX10_series 5 (.int) { frames := 2, cells := 0, slots := 0, locals := 43 } D G b0 f [.ref (X 0), .int p0, .int p1, .int p2] (fun r f1 => (-1 : Int32) = r ∧ ∀ q, bm ≤ q → f1 q = f q) := by
  refine met_of (own := RX10) (by decide) rfl (Nat.le_of_ble_eq_true rfl) ?_
  intro p e s m below meth c ls C hr hini hl h
  have hl : lv_has ls 5 [(0, .ref (X 0)), (1, .int p0), (2, .int p1), (3, .int p2)] := hl
  obtain ⟨hx, hb, hml, hown, hts, hE0, hlk⟩ := id C
  obtain ⟨kx0, kx1, kx2, kx3, kx4, kx5, kx6, kx7, kx8, kx9⟩ := hX
  refine lv_aload_n hx hb dX10_series_0 rfl (lv_at hl 0 rfl) ?_
  refine q_get C h kx0 fl_X10_19 (v := .ref (X 2)) rfl dX10_series_1 ?_
  refine lv_iload_n hx hb dX10_series_4 rfl (lv_at hl 1 rfl) ?_
  refine k_q (r_V C h hl (As := [.int p0]) (rest := []) (c_X0_find l D G b0 f X ⟨kx0, kx1, kx2, kx3, kx4, kx5, kx6, kx7, kx8, kx9⟩ p0) kx2 (Cn := RX0) (T := TX0) (N := 6) rfl rfl mk_X0_find w_594 w_595 w_596 w_597 ⟨Nat.le_of_ble_eq_true rfl, Nat.le_of_ble_eq_true rfl⟩ rfl (Nat.le_of_ble_eq_true rfl) ⟨Nat.le_of_ble_eq_true rfl, Nat.le_of_ble_eq_true rfl⟩ rfl dX10_series_5) h (fun r_83 f_84 H locs p_85 h => ?_)
  obtain ⟨rfl, rfl⟩ := p_85
  refine lv_astoreN (lv' := [(4, .null), (0, .ref (X 0)), (1, .int p0), (2, .int p1), (3, .int p2)]) hx hb dX10_series_8 hl (by decide) rfl (fun ls hl => ?_)
  refine lv_aloadN hx hb dX10_series_10 (lv_at hl 0 rfl) ?_
  refine lv_ifnullN (tgt := 29) hx hb dX10_series_12 (by decide) ?_
  refine lv_iconst (v := -1) hx hb dX10_series_29 (by decide) ?_
  exact q_iret C h hr (⟨rfl, fun q hq => rfl⟩) (Nat.le_of_ble_eq_true rfl) (Nat.le_of_ble_eq_true rfl) dX10_series_30
set_option maxRecDepth 100000 in
set_option maxHeartbeats 4000000 in
theorem c_X10_exact (l : Launch) (D : va_G) (G : Nat → Nat) (b0 : Nat) (f : hM) (bm : Nat) (X : Nat → Nat) (hX : xw G f X) (hB : ∀ i, i < 20 → X i < bm) (p0 : Int32) (p1 : Int32) (p2 : Int32) (p3 : Int32) : mL l yX10_exact cX10_exact 6 { frames := 2, cells := 0, slots := 0, locals := 43 } D G b0 f [.ref (X 0), .int p0, .int p1, .int p2, .int p3] (fun r f1 => (-1 : Int64) = r ∧ ∀ q, bm ≤ q → f1 q = f q) := by
  refine met_of (own := RX10) (by decide) rfl (Nat.le_of_ble_eq_true rfl) ?_
  intro p e s m below meth c ls C hr hini hl h
  have hl : lv_has ls 6 [(0, .ref (X 0)), (1, .int p0), (2, .int p1), (3, .int p2), (4, .int p3)] := hl
  obtain ⟨hx, hb, hml, hown, hts, hE0, hlk⟩ := id C
  obtain ⟨kx0, kx1, kx2, kx3, kx4, kx5, kx6, kx7, kx8, kx9⟩ := hX
  refine lv_aload_n hx hb dX10_exact_0 rfl (lv_at hl 0 rfl) ?_
  refine q_get C h kx0 fl_X10_19 (v := .ref (X 2)) rfl dX10_exact_1 ?_
  refine lv_iload_n hx hb dX10_exact_4 rfl (lv_at hl 1 rfl) ?_
  refine k_q (r_V C h hl (As := [.int p0]) (rest := []) (c_X0_find l D G b0 f X ⟨kx0, kx1, kx2, kx3, kx4, kx5, kx6, kx7, kx8, kx9⟩ p0) kx2 (Cn := RX0) (T := TX0) (N := 6) rfl rfl mk_X0_find w_594 w_595 w_596 w_597 ⟨Nat.le_of_ble_eq_true rfl, Nat.le_of_ble_eq_true rfl⟩ rfl (Nat.le_of_ble_eq_true rfl) ⟨Nat.le_of_ble_eq_true rfl, Nat.le_of_ble_eq_true rfl⟩ rfl dX10_exact_5) h (fun r_86 f_87 H locs p_88 h => ?_)
  obtain ⟨rfl, rfl⟩ := p_88
  refine lv_astoreN (lv' := [(5, .null), (0, .ref (X 0)), (1, .int p0), (2, .int p1), (3, .int p2), (4, .int p3)]) hx hb dX10_exact_8 hl (by decide) rfl (fun ls hl => ?_)
  refine lv_aloadN hx hb dX10_exact_10 (lv_at hl 0 rfl) ?_
  refine lv_ifnullN (tgt := 43) hx hb dX10_exact_12 (by decide) ?_
  refine lv_ldc2 (v := -1) hx hb hown (hts _ w_757) dX10_exact_43 ?_
  exact q_lret C h hr (⟨rfl, fun q hq => rfl⟩) (Nat.le_of_ble_eq_true rfl) (Nat.le_of_ble_eq_true rfl) dX10_exact_46
set_option maxRecDepth 100000 in
set_option maxHeartbeats 4000000 in
theorem c_X10_bridge (l : Launch) (D : va_G) (G : Nat → Nat) (b0 : Nat) (f : hM) (bm : Nat) (X : Nat → Nat) (hX : xw G f X) (hB : ∀ i, i < 20 → X i < bm) (p0 : Int32) (p1 : Int32) (p2 : Int32) (p3 : Int32) : mI l yX10_bridge cX10_bridge 6 (.int) { frames := 2, cells := 0, slots := 0, locals := 43 } D G b0 f [.ref (X 0), .int p0, .int p1, .int p2, .int p3] (fun r f1 => (-1 : Int32) = r ∧ ∀ q, bm ≤ q → f1 q = f q) := by
  refine met_of (own := RX10) (by decide) rfl (Nat.le_of_ble_eq_true rfl) ?_
  intro p e s m below meth c ls C hr hini hl h
  have hl : lv_has ls 6 [(0, .ref (X 0)), (1, .int p0), (2, .int p1), (3, .int p2), (4, .int p3)] := hl
  obtain ⟨hx, hb, hml, hown, hts, hE0, hlk⟩ := id C
  obtain ⟨kx0, kx1, kx2, kx3, kx4, kx5, kx6, kx7, kx8, kx9⟩ := hX
  refine lv_aload_n hx hb dX10_bridge_0 rfl (lv_at hl 0 rfl) ?_
  refine q_get C h kx0 fl_X10_19 (v := .ref (X 2)) rfl dX10_bridge_1 ?_
  refine lv_iload_n hx hb dX10_bridge_4 rfl (lv_at hl 1 rfl) ?_
  refine k_q (r_V C h hl (As := [.int p0]) (rest := []) (c_X0_find l D G b0 f X ⟨kx0, kx1, kx2, kx3, kx4, kx5, kx6, kx7, kx8, kx9⟩ p0) kx2 (Cn := RX0) (T := TX0) (N := 6) rfl rfl mk_X0_find w_594 w_595 w_596 w_597 ⟨Nat.le_of_ble_eq_true rfl, Nat.le_of_ble_eq_true rfl⟩ rfl (Nat.le_of_ble_eq_true rfl) ⟨Nat.le_of_ble_eq_true rfl, Nat.le_of_ble_eq_true rfl⟩ rfl dX10_bridge_5) h (fun r_89 f_90 H locs p_91 h => ?_)
  obtain ⟨rfl, rfl⟩ := p_91
  refine lv_astoreN (lv' := [(5, .null), (0, .ref (X 0)), (1, .int p0), (2, .int p1), (3, .int p2), (4, .int p3)]) hx hb dX10_bridge_8 hl (by decide) rfl (fun ls hl => ?_)
  refine lv_aloadN hx hb dX10_bridge_10 (lv_at hl 0 rfl) ?_
  refine lv_ifnullN (tgt := 31) hx hb dX10_bridge_12 (by decide) ?_
  refine lv_iconst (v := -1) hx hb dX10_bridge_31 (by decide) ?_
  exact q_iret C h hr (⟨rfl, fun q hq => rfl⟩) (Nat.le_of_ble_eq_true rfl) (Nat.le_of_ble_eq_true rfl) dX10_bridge_32
set_option maxRecDepth 100000 in
set_option maxHeartbeats 4000000 in
theorem c_X10_reflected (l : Launch) (D : va_G) (G : Nat → Nat) (b0 : Nat) (f : hM) (bm : Nat) (X : Nat → Nat) (hX : xw G f X) (hB : ∀ i, i < 20 → X i < bm) (p0 : Int32) (p1 : Int32) (p2 : Int32) (p3 : Int32) : mI l yX10_reflected cX10_reflected 10 (.int) { frames := 2, cells := 0, slots := 0, locals := 43 } D G b0 f [.ref (X 0), .int p0, .int p1, .int p2, .int p3] (fun r f1 => (-1000000 : Int32) = r ∧ ∀ q, bm ≤ q → f1 q = f q) := by
  refine met_of (own := RX10) (by decide) rfl (Nat.le_of_ble_eq_true rfl) ?_
  intro p e s m below meth c ls C hr hini hl h
  have hl : lv_has ls 10 [(0, .ref (X 0)), (1, .int p0), (2, .int p1), (3, .int p2), (4, .int p3)] := hl
  obtain ⟨hx, hb, hml, hown, hts, hE0, hlk⟩ := id C
  obtain ⟨kx0, kx1, kx2, kx3, kx4, kx5, kx6, kx7, kx8, kx9⟩ := hX
  refine lv_aload_n hx hb dX10_reflected_0 rfl (lv_at hl 0 rfl) ?_
  refine q_get C h kx0 fl_X10_19 (v := .ref (X 2)) rfl dX10_reflected_1 ?_
  refine lv_iload_n hx hb dX10_reflected_4 rfl (lv_at hl 1 rfl) ?_
  refine k_q (r_V C h hl (As := [.int p0]) (rest := []) (c_X0_find l D G b0 f X ⟨kx0, kx1, kx2, kx3, kx4, kx5, kx6, kx7, kx8, kx9⟩ p0) kx2 (Cn := RX0) (T := TX0) (N := 6) rfl rfl mk_X0_find w_594 w_595 w_596 w_597 ⟨Nat.le_of_ble_eq_true rfl, Nat.le_of_ble_eq_true rfl⟩ rfl (Nat.le_of_ble_eq_true rfl) ⟨Nat.le_of_ble_eq_true rfl, Nat.le_of_ble_eq_true rfl⟩ rfl dX10_reflected_5) h (fun r_92 f_93 H locs p_94 h => ?_)
  obtain ⟨rfl, rfl⟩ := p_94
  refine lv_astoreN (lv' := [(5, .null), (0, .ref (X 0)), (1, .int p0), (2, .int p1), (3, .int p2), (4, .int p3)]) hx hb dX10_reflected_8 hl (by decide) rfl (fun ls hl => ?_)
  refine lv_aloadN hx hb dX10_reflected_10 (lv_at hl 0 rfl) ?_
  refine lv_ifnullN (tgt := 43) hx hb dX10_reflected_12 (by decide) ?_
  refine lv_ldc (v := -1000000) hx hb hown (hts _ w_772) dX10_reflected_43 ?_
  exact q_iret C h hr (⟨rfl, fun q hq => rfl⟩) (Nat.le_of_ble_eq_true rfl) (Nat.le_of_ble_eq_true rfl) dX10_reflected_45
set_option maxRecDepth 100000 in
set_option maxHeartbeats 4000000 in
theorem c_X10_rank (l : Launch) (D : va_G) (G : Nat → Nat) (b0 : Nat) (f : hM) (bm : Nat) (X : Nat → Nat) (hX : xw G f X) (hB : ∀ i, i < 20 → X i < bm) (p0 : Int32) (p1 : Int32) : mI l yX10_rank cX10_rank 6 (.int) { frames := 2, cells := 0, slots := 0, locals := 43 } D G b0 f [.ref (X 0), .int p0, .int p1] (fun r f1 => (-1 : Int32) = r ∧ ∀ q, bm ≤ q → f1 q = f q) := by
  refine met_of (own := RX10) (by decide) rfl (Nat.le_of_ble_eq_true rfl) ?_
  intro p e s m below meth c ls C hr hini hl h
  have hl : lv_has ls 6 [(0, .ref (X 0)), (1, .int p0), (2, .int p1)] := hl
  obtain ⟨hx, hb, hml, hown, hts, hE0, hlk⟩ := id C
  obtain ⟨kx0, kx1, kx2, kx3, kx4, kx5, kx6, kx7, kx8, kx9⟩ := hX
  refine lv_aload_n hx hb dX10_rank_0 rfl (lv_at hl 0 rfl) ?_
  refine q_get C h kx0 fl_X10_19 (v := .ref (X 2)) rfl dX10_rank_1 ?_
  refine lv_iload_n hx hb dX10_rank_4 rfl (lv_at hl 1 rfl) ?_
  refine k_q (r_V C h hl (As := [.int p0]) (rest := []) (c_X0_find l D G b0 f X ⟨kx0, kx1, kx2, kx3, kx4, kx5, kx6, kx7, kx8, kx9⟩ p0) kx2 (Cn := RX0) (T := TX0) (N := 6) rfl rfl mk_X0_find w_594 w_595 w_596 w_597 ⟨Nat.le_of_ble_eq_true rfl, Nat.le_of_ble_eq_true rfl⟩ rfl (Nat.le_of_ble_eq_true rfl) ⟨Nat.le_of_ble_eq_true rfl, Nat.le_of_ble_eq_true rfl⟩ rfl dX10_rank_5) h (fun r_95 f_96 H locs p_97 h => ?_)
  obtain ⟨rfl, rfl⟩ := p_97
  refine lv_astore_nN (lv' := [(3, .null), (0, .ref (X 0)), (1, .int p0), (2, .int p1)]) hx hb dX10_rank_8 rfl hl (by decide) rfl (fun ls hl => ?_)
  refine lv_aload_nN hx hb dX10_rank_9 rfl (lv_at hl 0 rfl) ?_
  refine lv_ifnullN (tgt := 23) hx hb dX10_rank_10 (by decide) ?_
  refine lv_iconst (v := -1) hx hb dX10_rank_23 (by decide) ?_
  exact q_iret C h hr (⟨rfl, fun q hq => rfl⟩) (Nat.le_of_ble_eq_true rfl) (Nat.le_of_ble_eq_true rfl) dX10_rank_24
set_option maxRecDepth 100000 in
set_option maxHeartbeats 4000000 in
theorem c_X10_ratio (l : Launch) (D : va_G) (G : Nat → Nat) (b0 : Nat) (f : hM) (bm : Nat) (X : Nat → Nat) (hX : xw G f X) (hB : ∀ i, i < 20 → X i < bm) (p0 : Int32) (p1 : Int32) (p2 : Int32) : mI l yX10_ratio cX10_ratio 6 (.int) { frames := 2, cells := 0, slots := 0, locals := 43 } D G b0 f [.ref (X 0), .int p0, .int p1, .int p2] (fun r f1 => (-1 : Int32) = r ∧ ∀ q, bm ≤ q → f1 q = f q) := by
  refine met_of (own := RX10) (by decide) rfl (Nat.le_of_ble_eq_true rfl) ?_
  intro p e s m below meth c ls C hr hini hl h
  have hl : lv_has ls 6 [(0, .ref (X 0)), (1, .int p0), (2, .int p1), (3, .int p2)] := hl
  obtain ⟨hx, hb, hml, hown, hts, hE0, hlk⟩ := id C
  obtain ⟨kx0, kx1, kx2, kx3, kx4, kx5, kx6, kx7, kx8, kx9⟩ := hX
  refine lv_aload_n hx hb dX10_ratio_0 rfl (lv_at hl 0 rfl) ?_
  refine q_get C h kx0 fl_X10_19 (v := .ref (X 2)) rfl dX10_ratio_1 ?_
  refine lv_iload_n hx hb dX10_ratio_4 rfl (lv_at hl 1 rfl) ?_
  refine k_q (r_V C h hl (As := [.int p0]) (rest := []) (c_X0_find l D G b0 f X ⟨kx0, kx1, kx2, kx3, kx4, kx5, kx6, kx7, kx8, kx9⟩ p0) kx2 (Cn := RX0) (T := TX0) (N := 6) rfl rfl mk_X0_find w_594 w_595 w_596 w_597 ⟨Nat.le_of_ble_eq_true rfl, Nat.le_of_ble_eq_true rfl⟩ rfl (Nat.le_of_ble_eq_true rfl) ⟨Nat.le_of_ble_eq_true rfl, Nat.le_of_ble_eq_true rfl⟩ rfl dX10_ratio_5) h (fun r_98 f_99 H locs p_100 h => ?_)
  obtain ⟨rfl, rfl⟩ := p_100
  refine lv_astoreN (lv' := [(4, .null), (0, .ref (X 0)), (1, .int p0), (2, .int p1), (3, .int p2)]) hx hb dX10_ratio_8 hl (by decide) rfl (fun ls hl => ?_)
  refine lv_aloadN hx hb dX10_ratio_10 (lv_at hl 0 rfl) ?_
  refine lv_ifnullN (tgt := 32) hx hb dX10_ratio_12 (by decide) ?_
  refine lv_iconst (v := -1) hx hb dX10_ratio_32 (by decide) ?_
  exact q_iret C h hr (⟨rfl, fun q hq => rfl⟩) (Nat.le_of_ble_eq_true rfl) (Nat.le_of_ble_eq_true rfl) dX10_ratio_33
set_option maxRecDepth 100000 in
set_option maxHeartbeats 4000000 in
theorem c_X10_hankel (l : Launch) (D : va_G) (G : Nat → Nat) (b0 : Nat) (f : hM) (bm : Nat) (X : Nat → Nat) (hX : xw G f X) (hB : ∀ i, i < 20 → X i < bm) (p0 : Int32) (p1 : Int32) (p2 : Int32) : mI l yX10_hankel cX10_hankel 7 (.int) { frames := 2, cells := 0, slots := 0, locals := 43 } D G b0 f [.ref (X 0), .int p0, .int p1, .int p2] (fun r f1 => (-1 : Int32) = r ∧ ∀ q, bm ≤ q → f1 q = f q) := by
  refine met_of (own := RX10) (by decide) rfl (Nat.le_of_ble_eq_true rfl) ?_
  intro p e s m below meth c ls C hr hini hl h
  have hl : lv_has ls 7 [(0, .ref (X 0)), (1, .int p0), (2, .int p1), (3, .int p2)] := hl
  obtain ⟨hx, hb, hml, hown, hts, hE0, hlk⟩ := id C
  obtain ⟨kx0, kx1, kx2, kx3, kx4, kx5, kx6, kx7, kx8, kx9⟩ := hX
  refine lv_aload_n hx hb dX10_hankel_0 rfl (lv_at hl 0 rfl) ?_
  refine q_get C h kx0 fl_X10_19 (v := .ref (X 2)) rfl dX10_hankel_1 ?_
  refine lv_iload_n hx hb dX10_hankel_4 rfl (lv_at hl 1 rfl) ?_
  refine k_q (r_V C h hl (As := [.int p0]) (rest := []) (c_X0_find l D G b0 f X ⟨kx0, kx1, kx2, kx3, kx4, kx5, kx6, kx7, kx8, kx9⟩ p0) kx2 (Cn := RX0) (T := TX0) (N := 6) rfl rfl mk_X0_find w_594 w_595 w_596 w_597 ⟨Nat.le_of_ble_eq_true rfl, Nat.le_of_ble_eq_true rfl⟩ rfl (Nat.le_of_ble_eq_true rfl) ⟨Nat.le_of_ble_eq_true rfl, Nat.le_of_ble_eq_true rfl⟩ rfl dX10_hankel_5) h (fun r_101 f_102 H locs p_103 h => ?_)
  obtain ⟨rfl, rfl⟩ := p_103
  refine lv_astoreN (lv' := [(4, .null), (0, .ref (X 0)), (1, .int p0), (2, .int p1), (3, .int p2)]) hx hb dX10_hankel_8 hl (by decide) rfl (fun ls hl => ?_)
  refine lv_aloadN hx hb dX10_hankel_10 (lv_at hl 0 rfl) ?_
  refine lv_ifnullN (tgt := 32) hx hb dX10_hankel_12 (by decide) ?_
  refine lv_iconst (v := -1) hx hb dX10_hankel_32 (by decide) ?_
  exact q_iret C h hr (⟨rfl, fun q hq => rfl⟩) (Nat.le_of_ble_eq_true rfl) (Nat.le_of_ble_eq_true rfl) dX10_hankel_33
set_option maxRecDepth 100000 in
set_option maxHeartbeats 4000000 in
theorem c_X10_convolved (l : Launch) (D : va_G) (G : Nat → Nat) (b0 : Nat) (f : hM) (bm : Nat) (X : Nat → Nat) (hX : xw G f X) (hB : ∀ i, i < 20 → X i < bm) (p0 : Int32) (p1 : Int32) (p2 : Int32) (p3 : Int32) (p4 : Int32) : mI l yX10_convolved cX10_convolved 11 (.int) { frames := 2, cells := 0, slots := 0, locals := 43 } D G b0 f [.ref (X 0), .int p0, .int p1, .int p2, .int p3, .int p4] (fun r f1 => (-1 : Int32) = r ∧ ∀ q, bm ≤ q → f1 q = f q) := by
  refine met_of (own := RX10) (by decide) rfl (Nat.le_of_ble_eq_true rfl) ?_
  intro p e s m below meth c ls C hr hini hl h
  have hl : lv_has ls 11 [(0, .ref (X 0)), (1, .int p0), (2, .int p1), (3, .int p2), (4, .int p3), (5, .int p4)] := hl
  obtain ⟨hx, hb, hml, hown, hts, hE0, hlk⟩ := id C
  obtain ⟨kx0, kx1, kx2, kx3, kx4, kx5, kx6, kx7, kx8, kx9⟩ := hX
  refine lv_aload_n hx hb dX10_convolved_0 rfl (lv_at hl 0 rfl) ?_
  refine q_get C h kx0 fl_X10_19 (v := .ref (X 2)) rfl dX10_convolved_1 ?_
  refine lv_iload_n hx hb dX10_convolved_4 rfl (lv_at hl 1 rfl) ?_
  refine k_q (r_V C h hl (As := [.int p0]) (rest := []) (c_X0_find l D G b0 f X ⟨kx0, kx1, kx2, kx3, kx4, kx5, kx6, kx7, kx8, kx9⟩ p0) kx2 (Cn := RX0) (T := TX0) (N := 6) rfl rfl mk_X0_find w_594 w_595 w_596 w_597 ⟨Nat.le_of_ble_eq_true rfl, Nat.le_of_ble_eq_true rfl⟩ rfl (Nat.le_of_ble_eq_true rfl) ⟨Nat.le_of_ble_eq_true rfl, Nat.le_of_ble_eq_true rfl⟩ rfl dX10_convolved_5) h (fun r_104 f_105 H locs p_106 h => ?_)
  obtain ⟨rfl, rfl⟩ := p_106
  refine lv_astoreN (lv' := [(6, .null), (0, .ref (X 0)), (1, .int p0), (2, .int p1), (3, .int p2), (4, .int p3), (5, .int p4)]) hx hb dX10_convolved_8 hl (by decide) rfl (fun ls hl => ?_)
  refine lv_aload_n hx hb dX10_convolved_10 rfl (lv_at hl 1 rfl) ?_
  refine q_get C h kx0 fl_X10_19 (v := .ref (X 2)) rfl dX10_convolved_11 ?_
  refine lv_iload_n hx hb dX10_convolved_14 rfl (lv_at hl 4 rfl) ?_
  refine k_q (r_V C h hl (As := [.int p2]) (rest := []) (c_X0_find l D G b0 f X ⟨kx0, kx1, kx2, kx3, kx4, kx5, kx6, kx7, kx8, kx9⟩ p2) kx2 (Cn := RX0) (T := TX0) (N := 6) rfl rfl mk_X0_find w_594 w_595 w_596 w_597 ⟨Nat.le_of_ble_eq_true rfl, Nat.le_of_ble_eq_true rfl⟩ rfl (Nat.le_of_ble_eq_true rfl) ⟨Nat.le_of_ble_eq_true rfl, Nat.le_of_ble_eq_true rfl⟩ rfl dX10_convolved_15) h (fun r_107 f_108 H locs p_109 h => ?_)
  obtain ⟨rfl, rfl⟩ := p_109
  refine lv_astoreN (lv' := [(7, .null), (6, .null), (0, .ref (X 0)), (1, .int p0), (2, .int p1), (3, .int p2), (4, .int p3), (5, .int p4)]) hx hb dX10_convolved_18 hl (by decide) rfl (fun ls hl => ?_)
  refine lv_aloadN hx hb dX10_convolved_20 (lv_at hl 1 rfl) ?_
  refine lv_ifnullN (tgt := 53) hx hb dX10_convolved_22 (by decide) ?_
  refine lv_iconst (v := -1) hx hb dX10_convolved_53 (by decide) ?_
  exact q_iret C h hr (⟨rfl, fun q hq => rfl⟩) (Nat.le_of_ble_eq_true rfl) (Nat.le_of_ble_eq_true rfl) dX10_convolved_54
set_option maxRecDepth 100000 in
set_option maxHeartbeats 4000000 in
theorem c_X10_out (l : Launch) (D : va_G) (G : Nat → Nat) (b0 : Nat) (f : hM) (bm : Nat) (X : Nat → Nat) (hX : xw G f X) (hB : ∀ i, i < 20 → X i < bm) (p0 : Int32) (p1 : Int32) : mI l yX10_out cX10_out 4 (.int) { frames := 2, cells := 0, slots := 0, locals := 43 } D G b0 f [.ref (X 0), .int p0, .int p1] (fun r f1 => (-1 : Int32) = r ∧ ∀ q, bm ≤ q → f1 q = f q) := by
  refine met_of (own := RX10) (by decide) rfl (Nat.le_of_ble_eq_true rfl) ?_
  intro p e s m below meth c ls C hr hini hl h
  have hl : lv_has ls 4 [(0, .ref (X 0)), (1, .int p0), (2, .int p1)] := hl
  obtain ⟨hx, hb, hml, hown, hts, hE0, hlk⟩ := id C
  obtain ⟨kx0, kx1, kx2, kx3, kx4, kx5, kx6, kx7, kx8, kx9⟩ := hX
  refine lv_aload_n hx hb dX10_out_0 rfl (lv_at hl 0 rfl) ?_
  refine q_get C h kx0 fl_X10_19 (v := .ref (X 2)) rfl dX10_out_1 ?_
  refine lv_iload_n hx hb dX10_out_4 rfl (lv_at hl 1 rfl) ?_
  refine k_q (r_V C h hl (As := [.int p0]) (rest := []) (c_X0_find l D G b0 f X ⟨kx0, kx1, kx2, kx3, kx4, kx5, kx6, kx7, kx8, kx9⟩ p0) kx2 (Cn := RX0) (T := TX0) (N := 6) rfl rfl mk_X0_find w_594 w_595 w_596 w_597 ⟨Nat.le_of_ble_eq_true rfl, Nat.le_of_ble_eq_true rfl⟩ rfl (Nat.le_of_ble_eq_true rfl) ⟨Nat.le_of_ble_eq_true rfl, Nat.le_of_ble_eq_true rfl⟩ rfl dX10_out_5) h (fun r_110 f_111 H locs p_112 h => ?_)
  obtain ⟨rfl, rfl⟩ := p_112
  refine lv_astore_nN (lv' := [(3, .null), (0, .ref (X 0)), (1, .int p0), (2, .int p1)]) hx hb dX10_out_8 rfl hl (by decide) rfl (fun ls hl => ?_)
  refine lv_aload_nN hx hb dX10_out_9 rfl (lv_at hl 0 rfl) ?_
  refine lv_ifnullN (tgt := 20) hx hb dX10_out_10 (by decide) ?_
  refine lv_iconst (v := -1) hx hb dX10_out_20 (by decide) ?_
  exact q_iret C h hr (⟨rfl, fun q hq => rfl⟩) (Nat.le_of_ble_eq_true rfl) (Nat.le_of_ble_eq_true rfl) dX10_out_21
set_option maxRecDepth 100000 in
set_option maxHeartbeats 4000000 in
theorem c_X10_arches (l : Launch) (D : va_G) (G : Nat → Nat) (b0 : Nat) (f : hM) (bm : Nat) (X : Nat → Nat) (hX : xw G f X) (hB : ∀ i, i < 20 → X i < bm) (p0 : Int32) (p1 : Int32) : mI l yX10_arches cX10_arches 8 (.int) { frames := 2, cells := 0, slots := 0, locals := 43 } D G b0 f [.ref (X 0), .int p0, .int p1] (fun r f1 => (-1 : Int32) = r ∧ ∀ q, bm ≤ q → f1 q = f q) := by
  refine met_of (own := RX10) (by decide) rfl (Nat.le_of_ble_eq_true rfl) ?_
  intro p e s m below meth c ls C hr hini hl h
  have hl : lv_has ls 8 [(0, .ref (X 0)), (1, .int p0), (2, .int p1)] := hl
  obtain ⟨hx, hb, hml, hown, hts, hE0, hlk⟩ := id C
  obtain ⟨kx0, kx1, kx2, kx3, kx4, kx5, kx6, kx7, kx8, kx9⟩ := hX
  refine lv_aload_n hx hb dX10_arches_0 rfl (lv_at hl 0 rfl) ?_
  refine q_get C h kx0 fl_X10_19 (v := .ref (X 2)) rfl dX10_arches_1 ?_
  refine lv_iload_n hx hb dX10_arches_4 rfl (lv_at hl 1 rfl) ?_
  refine k_q (r_V C h hl (As := [.int p0]) (rest := []) (c_X0_find l D G b0 f X ⟨kx0, kx1, kx2, kx3, kx4, kx5, kx6, kx7, kx8, kx9⟩ p0) kx2 (Cn := RX0) (T := TX0) (N := 6) rfl rfl mk_X0_find w_594 w_595 w_596 w_597 ⟨Nat.le_of_ble_eq_true rfl, Nat.le_of_ble_eq_true rfl⟩ rfl (Nat.le_of_ble_eq_true rfl) ⟨Nat.le_of_ble_eq_true rfl, Nat.le_of_ble_eq_true rfl⟩ rfl dX10_arches_5) h (fun r_113 f_114 H locs p_115 h => ?_)
  obtain ⟨rfl, rfl⟩ := p_115
  refine lv_astore_nN (lv' := [(3, .null), (0, .ref (X 0)), (1, .int p0), (2, .int p1)]) hx hb dX10_arches_8 rfl hl (by decide) rfl (fun ls hl => ?_)
  refine lv_aload_nN hx hb dX10_arches_9 rfl (lv_at hl 0 rfl) ?_
  refine lv_ifnullN (tgt := 23) hx hb dX10_arches_10 (by decide) ?_
  refine lv_iconst (v := -1) hx hb dX10_arches_23 (by decide) ?_
  exact q_iret C h hr (⟨rfl, fun q hq => rfl⟩) (Nat.le_of_ble_eq_true rfl) (Nat.le_of_ble_eq_true rfl) dX10_arches_24
set_option maxRecDepth 100000 in
set_option maxHeartbeats 4000000 in
theorem c_X10_value (l : Launch) (D : va_G) (G : Nat → Nat) (b0 : Nat) (f : hM) (bm : Nat) (X : Nat → Nat) (hX : xw G f X) (hB : ∀ i, i < 20 → X i < bm) (p0 : Int32) (p1 : Int32) (p2 : Int32) (p3 : Int32) : mI l yX10_value cX10_value 6 (.int) { frames := 2, cells := 0, slots := 0, locals := 43 } D G b0 f [.ref (X 0), .int p0, .int p1, .int p2, .int p3] (fun r f1 => (-1 : Int32) = r ∧ ∀ q, bm ≤ q → f1 q = f q) := by
  refine met_of (own := RX10) (by decide) rfl (Nat.le_of_ble_eq_true rfl) ?_
  intro p e s m below meth c ls C hr hini hl h
  have hl : lv_has ls 6 [(0, .ref (X 0)), (1, .int p0), (2, .int p1), (3, .int p2), (4, .int p3)] := hl
  obtain ⟨hx, hb, hml, hown, hts, hE0, hlk⟩ := id C
  obtain ⟨kx0, kx1, kx2, kx3, kx4, kx5, kx6, kx7, kx8, kx9⟩ := hX
  refine lv_aload_n hx hb dX10_value_0 rfl (lv_at hl 0 rfl) ?_
  refine q_get C h kx0 fl_X10_19 (v := .ref (X 2)) rfl dX10_value_1 ?_
  refine lv_iload_n hx hb dX10_value_4 rfl (lv_at hl 1 rfl) ?_
  refine k_q (r_V C h hl (As := [.int p0]) (rest := []) (c_X0_find l D G b0 f X ⟨kx0, kx1, kx2, kx3, kx4, kx5, kx6, kx7, kx8, kx9⟩ p0) kx2 (Cn := RX0) (T := TX0) (N := 6) rfl rfl mk_X0_find w_594 w_595 w_596 w_597 ⟨Nat.le_of_ble_eq_true rfl, Nat.le_of_ble_eq_true rfl⟩ rfl (Nat.le_of_ble_eq_true rfl) ⟨Nat.le_of_ble_eq_true rfl, Nat.le_of_ble_eq_true rfl⟩ rfl dX10_value_5) h (fun r_116 f_117 H locs p_118 h => ?_)
  obtain ⟨rfl, rfl⟩ := p_118
  refine lv_astoreN (lv' := [(5, .null), (0, .ref (X 0)), (1, .int p0), (2, .int p1), (3, .int p2), (4, .int p3)]) hx hb dX10_value_8 hl (by decide) rfl (fun ls hl => ?_)
  refine lv_aloadN hx hb dX10_value_10 (lv_at hl 0 rfl) ?_
  refine lv_ifnullN (tgt := 43) hx hb dX10_value_12 (by decide) ?_
  refine lv_iconst (v := -1) hx hb dX10_value_43 (by decide) ?_
  exact q_iret C h hr (⟨rfl, fun q hq => rfl⟩) (Nat.le_of_ble_eq_true rfl) (Nat.le_of_ble_eq_true rfl) dX10_value_44
set_option maxRecDepth 100000 in
set_option maxHeartbeats 4000000 in
theorem c_X10_walk (l : Launch) (D : va_G) (G : Nat → Nat) (b0 : Nat) (f : hM) (bm : Nat) (X : Nat → Nat) (hX : xw G f X) (hB : ∀ i, i < 20 → X i < bm) (p0 : Int32) (p1 : Int32) (p2 : Int32) (p3 : Int32) (p4 : Int32) (p5 : Int32) : mI l yX10_walk cX10_walk 9 (.int) { frames := 2, cells := 0, slots := 0, locals := 43 } D G b0 f [.ref (X 0), .int p0, .int p1, .int p2, .int p3, .int p4, .int p5] (fun r f1 => (-1000000 : Int32) = r ∧ ∀ q, bm ≤ q → f1 q = f q) := by
  refine met_of (own := RX10) (by decide) rfl (Nat.le_of_ble_eq_true rfl) ?_
  intro p e s m below meth c ls C hr hini hl h
  have hl : lv_has ls 9 [(0, .ref (X 0)), (1, .int p0), (2, .int p1), (3, .int p2), (4, .int p3), (5, .int p4), (6, .int p5)] := hl
  obtain ⟨hx, hb, hml, hown, hts, hE0, hlk⟩ := id C
  obtain ⟨kx0, kx1, kx2, kx3, kx4, kx5, kx6, kx7, kx8, kx9⟩ := hX
  refine lv_aload_n hx hb dX10_walk_0 rfl (lv_at hl 0 rfl) ?_
  refine q_get C h kx0 fl_X10_19 (v := .ref (X 2)) rfl dX10_walk_1 ?_
  refine lv_iload_n hx hb dX10_walk_4 rfl (lv_at hl 1 rfl) ?_
  refine k_q (r_V C h hl (As := [.int p0]) (rest := []) (c_X0_find l D G b0 f X ⟨kx0, kx1, kx2, kx3, kx4, kx5, kx6, kx7, kx8, kx9⟩ p0) kx2 (Cn := RX0) (T := TX0) (N := 6) rfl rfl mk_X0_find w_594 w_595 w_596 w_597 ⟨Nat.le_of_ble_eq_true rfl, Nat.le_of_ble_eq_true rfl⟩ rfl (Nat.le_of_ble_eq_true rfl) ⟨Nat.le_of_ble_eq_true rfl, Nat.le_of_ble_eq_true rfl⟩ rfl dX10_walk_5) h (fun r_119 f_120 H locs p_121 h => ?_)
  obtain ⟨rfl, rfl⟩ := p_121
  refine lv_astoreN (lv' := [(7, .null), (0, .ref (X 0)), (1, .int p0), (2, .int p1), (3, .int p2), (4, .int p3), (5, .int p4), (6, .int p5)]) hx hb dX10_walk_8 hl (by decide) rfl (fun ls hl => ?_)
  refine lv_aloadN hx hb dX10_walk_10 (lv_at hl 0 rfl) ?_
  refine lv_ifnullN (tgt := 34) hx hb dX10_walk_12 (by decide) ?_
  refine lv_ldc (v := -1000000) hx hb hown (hts _ w_772) dX10_walk_34 ?_
  exact q_iret C h hr (⟨rfl, fun q hq => rfl⟩) (Nat.le_of_ble_eq_true rfl) (Nat.le_of_ble_eq_true rfl) dX10_walk_36
set_option maxRecDepth 100000 in
set_option maxHeartbeats 4000000 in
theorem c_X10_drawn (l : Launch) (D : va_G) (G : Nat → Nat) (b0 : Nat) (f : hM) (bm : Nat) (X : Nat → Nat) (hX : xw G f X) (hB : ∀ i, i < 20 → X i < bm) (p0 : Int32) (p1 : Int32) (p2 : Int32) (p3 : Int32) (p4 : Int64) (p5 : Int32) : mI l yX10_drawn cX10_drawn 12 (.int) { frames := 2, cells := 0, slots := 0, locals := 43 } D G b0 f [.ref (X 0), .int p0, .int p1, .int p2, .int p3, .long p4, .int p5] (fun r f1 => (-1000000 : Int32) = r ∧ ∀ q, bm ≤ q → f1 q = f q) := by
  refine met_of (own := RX10) (by decide) rfl (Nat.le_of_ble_eq_true rfl) ?_
  intro p e s m below meth c ls C hr hini hl h
  have hl : lv_has ls 12 [(0, .ref (X 0)), (1, .int p0), (2, .int p1), (3, .int p2), (4, .int p3), (5, .long p4), (7, .int p5)] := hl
  obtain ⟨hx, hb, hml, hown, hts, hE0, hlk⟩ := id C
  obtain ⟨kx0, kx1, kx2, kx3, kx4, kx5, kx6, kx7, kx8, kx9⟩ := hX
  refine lv_aload_n hx hb dX10_drawn_0 rfl (lv_at hl 0 rfl) ?_
  refine q_get C h kx0 fl_X10_19 (v := .ref (X 2)) rfl dX10_drawn_1 ?_
  refine lv_iload_n hx hb dX10_drawn_4 rfl (lv_at hl 1 rfl) ?_
  refine k_q (r_V C h hl (As := [.int p0]) (rest := []) (c_X0_find l D G b0 f X ⟨kx0, kx1, kx2, kx3, kx4, kx5, kx6, kx7, kx8, kx9⟩ p0) kx2 (Cn := RX0) (T := TX0) (N := 6) rfl rfl mk_X0_find w_594 w_595 w_596 w_597 ⟨Nat.le_of_ble_eq_true rfl, Nat.le_of_ble_eq_true rfl⟩ rfl (Nat.le_of_ble_eq_true rfl) ⟨Nat.le_of_ble_eq_true rfl, Nat.le_of_ble_eq_true rfl⟩ rfl dX10_drawn_5) h (fun r_122 f_123 H locs p_124 h => ?_)
  obtain ⟨rfl, rfl⟩ := p_124
  refine lv_astoreN (lv' := [(8, .null), (0, .ref (X 0)), (1, .int p0), (2, .int p1), (3, .int p2), (4, .int p3), (5, .long p4), (7, .int p5)]) hx hb dX10_drawn_8 hl (by decide) rfl (fun ls hl => ?_)
  refine lv_aloadN hx hb dX10_drawn_10 (lv_at hl 0 rfl) ?_
  refine lv_ifnullN (tgt := 46) hx hb dX10_drawn_12 (by decide) ?_
  refine lv_ldc (v := -1000000) hx hb hown (hts _ w_772) dX10_drawn_46 ?_
  exact q_iret C h hr (⟨rfl, fun q hq => rfl⟩) (Nat.le_of_ble_eq_true rfl) (Nat.le_of_ble_eq_true rfl) dX10_drawn_48
set_option maxRecDepth 100000 in
set_option maxHeartbeats 4000000 in
theorem c_X10_peak (l : Launch) (D : va_G) (G : Nat → Nat) (b0 : Nat) (f : hM) (bm : Nat) (X : Nat → Nat) (hX : xw G f X) (hB : ∀ i, i < 20 → X i < bm) (p0 : Int32) (p1 : Int32) (p2 : Int32) : mI l yX10_peak cX10_peak 5 (.int) { frames := 2, cells := 0, slots := 0, locals := 43 } D G b0 f [.ref (X 0), .int p0, .int p1, .int p2] (fun r f1 => (-1000000 : Int32) = r ∧ ∀ q, bm ≤ q → f1 q = f q) := by
  refine met_of (own := RX10) (by decide) rfl (Nat.le_of_ble_eq_true rfl) ?_
  intro p e s m below meth c ls C hr hini hl h
  have hl : lv_has ls 5 [(0, .ref (X 0)), (1, .int p0), (2, .int p1), (3, .int p2)] := hl
  obtain ⟨hx, hb, hml, hown, hts, hE0, hlk⟩ := id C
  obtain ⟨kx0, kx1, kx2, kx3, kx4, kx5, kx6, kx7, kx8, kx9⟩ := hX
  refine lv_aload_n hx hb dX10_peak_0 rfl (lv_at hl 0 rfl) ?_
  refine q_get C h kx0 fl_X10_19 (v := .ref (X 2)) rfl dX10_peak_1 ?_
  refine lv_iload_n hx hb dX10_peak_4 rfl (lv_at hl 1 rfl) ?_
  refine k_q (r_V C h hl (As := [.int p0]) (rest := []) (c_X0_find l D G b0 f X ⟨kx0, kx1, kx2, kx3, kx4, kx5, kx6, kx7, kx8, kx9⟩ p0) kx2 (Cn := RX0) (T := TX0) (N := 6) rfl rfl mk_X0_find w_594 w_595 w_596 w_597 ⟨Nat.le_of_ble_eq_true rfl, Nat.le_of_ble_eq_true rfl⟩ rfl (Nat.le_of_ble_eq_true rfl) ⟨Nat.le_of_ble_eq_true rfl, Nat.le_of_ble_eq_true rfl⟩ rfl dX10_peak_5) h (fun r_125 f_126 H locs p_127 h => ?_)
  obtain ⟨rfl, rfl⟩ := p_127
  refine lv_astoreN (lv' := [(4, .null), (0, .ref (X 0)), (1, .int p0), (2, .int p1), (3, .int p2)]) hx hb dX10_peak_8 hl (by decide) rfl (fun ls hl => ?_)
  refine lv_aloadN hx hb dX10_peak_10 (lv_at hl 0 rfl) ?_
  refine lv_ifnullN (tgt := 34) hx hb dX10_peak_12 (by decide) ?_
  refine lv_ldc (v := -1000000) hx hb hown (hts _ w_772) dX10_peak_34 ?_
  exact q_iret C h hr (⟨rfl, fun q hq => rfl⟩) (Nat.le_of_ble_eq_true rfl) (Nat.le_of_ble_eq_true rfl) dX10_peak_36
set_option maxRecDepth 100000 in
set_option maxHeartbeats 4000000 in
theorem c_X10_points (l : Launch) (D : va_G) (G : Nat → Nat) (b0 : Nat) (f : hM) (bm : Nat) (X : Nat → Nat) (hX : xw G f X) (hB : ∀ i, i < 20 → X i < bm) (p0 : Int32) (p1 : Int32) : mI l yX10_points cX10_points 4 (.int) { frames := 2, cells := 0, slots := 0, locals := 43 } D G b0 f [.ref (X 0), .int p0, .int p1] (fun r f1 => (-1 : Int32) = r ∧ ∀ q, bm ≤ q → f1 q = f q) := by
  refine met_of (own := RX10) (by decide) rfl (Nat.le_of_ble_eq_true rfl) ?_
  intro p e s m below meth c ls C hr hini hl h
  have hl : lv_has ls 4 [(0, .ref (X 0)), (1, .int p0), (2, .int p1)] := hl
  obtain ⟨hx, hb, hml, hown, hts, hE0, hlk⟩ := id C
  obtain ⟨kx0, kx1, kx2, kx3, kx4, kx5, kx6, kx7, kx8, kx9⟩ := hX
  refine lv_aload_n hx hb dX10_points_0 rfl (lv_at hl 0 rfl) ?_
  refine q_get C h kx0 fl_X10_19 (v := .ref (X 2)) rfl dX10_points_1 ?_
  refine lv_iload_n hx hb dX10_points_4 rfl (lv_at hl 1 rfl) ?_
  refine k_q (r_V C h hl (As := [.int p0]) (rest := []) (c_X0_find l D G b0 f X ⟨kx0, kx1, kx2, kx3, kx4, kx5, kx6, kx7, kx8, kx9⟩ p0) kx2 (Cn := RX0) (T := TX0) (N := 6) rfl rfl mk_X0_find w_594 w_595 w_596 w_597 ⟨Nat.le_of_ble_eq_true rfl, Nat.le_of_ble_eq_true rfl⟩ rfl (Nat.le_of_ble_eq_true rfl) ⟨Nat.le_of_ble_eq_true rfl, Nat.le_of_ble_eq_true rfl⟩ rfl dX10_points_5) h (fun r_128 f_129 H locs p_130 h => ?_)
  obtain ⟨rfl, rfl⟩ := p_130
  refine lv_astore_nN (lv' := [(3, .null), (0, .ref (X 0)), (1, .int p0), (2, .int p1)]) hx hb dX10_points_8 rfl hl (by decide) rfl (fun ls hl => ?_)
  refine lv_aload_nN hx hb dX10_points_9 rfl (lv_at hl 0 rfl) ?_
  refine lv_ifnullN (tgt := 20) hx hb dX10_points_10 (by decide) ?_
  refine lv_iconst (v := -1) hx hb dX10_points_20 (by decide) ?_
  exact q_iret C h hr (⟨rfl, fun q hq => rfl⟩) (Nat.le_of_ble_eq_true rfl) (Nat.le_of_ble_eq_true rfl) dX10_points_21
set_option maxRecDepth 100000 in
set_option maxHeartbeats 4000000 in
theorem c_X10_fewest (l : Launch) (D : va_G) (G : Nat → Nat) (b0 : Nat) (f : hM) (bm : Nat) (X : Nat → Nat) (hX : xw G f X) (hB : ∀ i, i < 20 → X i < bm) (p0 : Int32) (p1 : Int32) (p2 : Int32) : mI l yX10_fewest cX10_fewest 6 (.int) { frames := 2, cells := 0, slots := 0, locals := 43 } D G b0 f [.ref (X 0), .int p0, .int p1, .int p2] (fun r f1 => (-1 : Int32) = r ∧ ∀ q, bm ≤ q → f1 q = f q) := by
  refine met_of (own := RX10) (by decide) rfl (Nat.le_of_ble_eq_true rfl) ?_
  intro p e s m below meth c ls C hr hini hl h
  have hl : lv_has ls 6 [(0, .ref (X 0)), (1, .int p0), (2, .int p1), (3, .int p2)] := hl
  obtain ⟨hx, hb, hml, hown, hts, hE0, hlk⟩ := id C
  obtain ⟨kx0, kx1, kx2, kx3, kx4, kx5, kx6, kx7, kx8, kx9⟩ := hX
  refine lv_aload_n hx hb dX10_fewest_0 rfl (lv_at hl 0 rfl) ?_
  refine q_get C h kx0 fl_X10_19 (v := .ref (X 2)) rfl dX10_fewest_1 ?_
  refine lv_iload_n hx hb dX10_fewest_4 rfl (lv_at hl 1 rfl) ?_
  refine k_q (r_V C h hl (As := [.int p0]) (rest := []) (c_X0_find l D G b0 f X ⟨kx0, kx1, kx2, kx3, kx4, kx5, kx6, kx7, kx8, kx9⟩ p0) kx2 (Cn := RX0) (T := TX0) (N := 6) rfl rfl mk_X0_find w_594 w_595 w_596 w_597 ⟨Nat.le_of_ble_eq_true rfl, Nat.le_of_ble_eq_true rfl⟩ rfl (Nat.le_of_ble_eq_true rfl) ⟨Nat.le_of_ble_eq_true rfl, Nat.le_of_ble_eq_true rfl⟩ rfl dX10_fewest_5) h (fun r_131 f_132 H locs p_133 h => ?_)
  obtain ⟨rfl, rfl⟩ := p_133
  refine lv_astoreN (lv' := [(4, .null), (0, .ref (X 0)), (1, .int p0), (2, .int p1), (3, .int p2)]) hx hb dX10_fewest_8 hl (by decide) rfl (fun ls hl => ?_)
  refine lv_aloadN hx hb dX10_fewest_10 (lv_at hl 0 rfl) ?_
  refine lv_ifnullN (tgt := 23) hx hb dX10_fewest_12 (by decide) ?_
  refine lv_iconst (v := -1) hx hb dX10_fewest_23 (by decide) ?_
  exact q_iret C h hr (⟨rfl, fun q hq => rfl⟩) (Nat.le_of_ble_eq_true rfl) (Nat.le_of_ble_eq_true rfl) dX10_fewest_24
set_option maxRecDepth 100000 in
set_option maxHeartbeats 4000000 in
theorem c_X10_period (l : Launch) (D : va_G) (G : Nat → Nat) (b0 : Nat) (f : hM) (bm : Nat) (X : Nat → Nat) (hX : xw G f X) (hB : ∀ i, i < 20 → X i < bm) (p0 : Int32) : mI l yX10_period cX10_period 5 (.int) { frames := 2, cells := 0, slots := 0, locals := 43 } D G b0 f [.ref (X 0), .int p0] (fun r f1 => (-1 : Int32) = r ∧ ∀ q, bm ≤ q → f1 q = f q) := by
  refine met_of (own := RX10) (by decide) rfl (Nat.le_of_ble_eq_true rfl) ?_
  intro p e s m below meth c ls C hr hini hl h
  have hl : lv_has ls 5 [(0, .ref (X 0)), (1, .int p0)] := hl
  obtain ⟨hx, hb, hml, hown, hts, hE0, hlk⟩ := id C
  obtain ⟨kx0, kx1, kx2, kx3, kx4, kx5, kx6, kx7, kx8, kx9⟩ := hX
  refine lv_aload_n hx hb dX10_period_0 rfl (lv_at hl 0 rfl) ?_
  refine q_get C h kx0 fl_X10_19 (v := .ref (X 2)) rfl dX10_period_1 ?_
  refine lv_iload_n hx hb dX10_period_4 rfl (lv_at hl 1 rfl) ?_
  refine k_q (r_V C h hl (As := [.int p0]) (rest := []) (c_X0_find l D G b0 f X ⟨kx0, kx1, kx2, kx3, kx4, kx5, kx6, kx7, kx8, kx9⟩ p0) kx2 (Cn := RX0) (T := TX0) (N := 6) rfl rfl mk_X0_find w_594 w_595 w_596 w_597 ⟨Nat.le_of_ble_eq_true rfl, Nat.le_of_ble_eq_true rfl⟩ rfl (Nat.le_of_ble_eq_true rfl) ⟨Nat.le_of_ble_eq_true rfl, Nat.le_of_ble_eq_true rfl⟩ rfl dX10_period_5) h (fun r_134 f_135 H locs p_136 h => ?_)
  obtain ⟨rfl, rfl⟩ := p_136
  refine lv_astore_nN (lv' := [(2, .null), (0, .ref (X 0)), (1, .int p0)]) hx hb dX10_period_8 rfl hl (by decide) rfl (fun ls hl => ?_)
  refine lv_aload_nN hx hb dX10_period_9 rfl (lv_at hl 0 rfl) ?_
  refine lv_ifnonnullN hx hb dX10_period_10 ?_
  refine lv_iconst (v := -1) hx hb dX10_period_13 (by decide) ?_
  exact q_iret C h hr (⟨rfl, fun q hq => rfl⟩) (Nat.le_of_ble_eq_true rfl) (Nat.le_of_ble_eq_true rfl) dX10_period_14
set_option maxRecDepth 100000 in
set_option maxHeartbeats 4000000 in
theorem c_X10_meet (l : Launch) (D : va_G) (G : Nat → Nat) (b0 : Nat) (f : hM) (bm : Nat) (X : Nat → Nat) (hX : xw G f X) (hB : ∀ i, i < 20 → X i < bm) (p0 : Int32) (p1 : Int32) (p2 : Int32) : mI l yX10_meet cX10_meet 6 (.int) { frames := 2, cells := 0, slots := 0, locals := 43 } D G b0 f [.ref (X 0), .int p0, .int p1, .int p2] (fun r f1 => (-1 : Int32) = r ∧ ∀ q, bm ≤ q → f1 q = f q) := by
  refine met_of (own := RX10) (by decide) rfl (Nat.le_of_ble_eq_true rfl) ?_
  intro p e s m below meth c ls C hr hini hl h
  have hl : lv_has ls 6 [(0, .ref (X 0)), (1, .int p0), (2, .int p1), (3, .int p2)] := hl
  obtain ⟨hx, hb, hml, hown, hts, hE0, hlk⟩ := id C
  obtain ⟨kx0, kx1, kx2, kx3, kx4, kx5, kx6, kx7, kx8, kx9⟩ := hX
  refine lv_aload_n hx hb dX10_meet_0 rfl (lv_at hl 0 rfl) ?_
  refine q_get C h kx0 fl_X10_19 (v := .ref (X 2)) rfl dX10_meet_1 ?_
  refine lv_iload_n hx hb dX10_meet_4 rfl (lv_at hl 1 rfl) ?_
  refine k_q (r_V C h hl (As := [.int p0]) (rest := []) (c_X0_find l D G b0 f X ⟨kx0, kx1, kx2, kx3, kx4, kx5, kx6, kx7, kx8, kx9⟩ p0) kx2 (Cn := RX0) (T := TX0) (N := 6) rfl rfl mk_X0_find w_594 w_595 w_596 w_597 ⟨Nat.le_of_ble_eq_true rfl, Nat.le_of_ble_eq_true rfl⟩ rfl (Nat.le_of_ble_eq_true rfl) ⟨Nat.le_of_ble_eq_true rfl, Nat.le_of_ble_eq_true rfl⟩ rfl dX10_meet_5) h (fun r_137 f_138 H locs p_139 h => ?_)
  obtain ⟨rfl, rfl⟩ := p_139
  refine lv_astoreN (lv' := [(4, .null), (0, .ref (X 0)), (1, .int p0), (2, .int p1), (3, .int p2)]) hx hb dX10_meet_8 hl (by decide) rfl (fun ls hl => ?_)
  refine lv_aload_n hx hb dX10_meet_10 rfl (lv_at hl 1 rfl) ?_
  refine q_get C h kx0 fl_X10_19 (v := .ref (X 2)) rfl dX10_meet_11 ?_
  refine lv_iload_n hx hb dX10_meet_14 rfl (lv_at hl 3 rfl) ?_
  refine k_q (r_V C h hl (As := [.int p1]) (rest := []) (c_X0_find l D G b0 f X ⟨kx0, kx1, kx2, kx3, kx4, kx5, kx6, kx7, kx8, kx9⟩ p1) kx2 (Cn := RX0) (T := TX0) (N := 6) rfl rfl mk_X0_find w_594 w_595 w_596 w_597 ⟨Nat.le_of_ble_eq_true rfl, Nat.le_of_ble_eq_true rfl⟩ rfl (Nat.le_of_ble_eq_true rfl) ⟨Nat.le_of_ble_eq_true rfl, Nat.le_of_ble_eq_true rfl⟩ rfl dX10_meet_15) h (fun r_140 f_141 H locs p_142 h => ?_)
  obtain ⟨rfl, rfl⟩ := p_142
  refine lv_astoreN (lv' := [(5, .null), (4, .null), (0, .ref (X 0)), (1, .int p0), (2, .int p1), (3, .int p2)]) hx hb dX10_meet_18 hl (by decide) rfl (fun ls hl => ?_)
  refine lv_aloadN hx hb dX10_meet_20 (lv_at hl 1 rfl) ?_
  refine lv_ifnullN (tgt := 37) hx hb dX10_meet_22 (by decide) ?_
  refine lv_iconst (v := -1) hx hb dX10_meet_37 (by decide) ?_
  exact q_iret C h hr (⟨rfl, fun q hq => rfl⟩) (Nat.le_of_ble_eq_true rfl) (Nat.le_of_ble_eq_true rfl) dX10_meet_38
set_option maxRecDepth 100000 in
set_option maxHeartbeats 4000000 in
theorem c_X10_kernel (l : Launch) (D : va_G) (G : Nat → Nat) (b0 : Nat) (f : hM) (bm : Nat) (X : Nat → Nat) (hX : xw G f X) (hB : ∀ i, i < 20 → X i < bm) (p0 : Int32) (p1 : Int32) (p2 : Int32) : mI l yX10_kernel cX10_kernel 5 (.int) { frames := 2, cells := 0, slots := 0, locals := 43 } D G b0 f [.ref (X 0), .int p0, .int p1, .int p2] (fun r f1 => (-1 : Int32) = r ∧ ∀ q, bm ≤ q → f1 q = f q) := by
  refine met_of (own := RX10) (by decide) rfl (Nat.le_of_ble_eq_true rfl) ?_
  intro p e s m below meth c ls C hr hini hl h
  have hl : lv_has ls 5 [(0, .ref (X 0)), (1, .int p0), (2, .int p1), (3, .int p2)] := hl
  obtain ⟨hx, hb, hml, hown, hts, hE0, hlk⟩ := id C
  obtain ⟨kx0, kx1, kx2, kx3, kx4, kx5, kx6, kx7, kx8, kx9⟩ := hX
  refine lv_aload_n hx hb dX10_kernel_0 rfl (lv_at hl 0 rfl) ?_
  refine q_get C h kx0 fl_X10_19 (v := .ref (X 2)) rfl dX10_kernel_1 ?_
  refine lv_iload_n hx hb dX10_kernel_4 rfl (lv_at hl 1 rfl) ?_
  refine k_q (r_V C h hl (As := [.int p0]) (rest := []) (c_X0_find l D G b0 f X ⟨kx0, kx1, kx2, kx3, kx4, kx5, kx6, kx7, kx8, kx9⟩ p0) kx2 (Cn := RX0) (T := TX0) (N := 6) rfl rfl mk_X0_find w_594 w_595 w_596 w_597 ⟨Nat.le_of_ble_eq_true rfl, Nat.le_of_ble_eq_true rfl⟩ rfl (Nat.le_of_ble_eq_true rfl) ⟨Nat.le_of_ble_eq_true rfl, Nat.le_of_ble_eq_true rfl⟩ rfl dX10_kernel_5) h (fun r_143 f_144 H locs p_145 h => ?_)
  obtain ⟨rfl, rfl⟩ := p_145
  refine lv_astoreN (lv' := [(4, .null), (0, .ref (X 0)), (1, .int p0), (2, .int p1), (3, .int p2)]) hx hb dX10_kernel_8 hl (by decide) rfl (fun ls hl => ?_)
  refine lv_aloadN hx hb dX10_kernel_10 (lv_at hl 0 rfl) ?_
  refine lv_ifnullN (tgt := 29) hx hb dX10_kernel_12 (by decide) ?_
  refine lv_iconst (v := -1) hx hb dX10_kernel_29 (by decide) ?_
  exact q_iret C h hr (⟨rfl, fun q hq => rfl⟩) (Nat.le_of_ble_eq_true rfl) (Nat.le_of_ble_eq_true rfl) dX10_kernel_30
set_option maxRecDepth 100000 in
set_option maxHeartbeats 4000000 in
theorem c_X10_turned (l : Launch) (D : va_G) (G : Nat → Nat) (b0 : Nat) (f : hM) (bm : Nat) (X : Nat → Nat) (hX : xw G f X) (hB : ∀ i, i < 20 → X i < bm) (p0 : Int32) (p1 : Int32) (p2 : Int32) (p3 : Int32) : mI l yX10_turned cX10_turned 6 (.int) { frames := 2, cells := 0, slots := 0, locals := 43 } D G b0 f [.ref (X 0), .int p0, .int p1, .int p2, .int p3] (fun r f1 => (-1 : Int32) = r ∧ ∀ q, bm ≤ q → f1 q = f q) := by
  refine met_of (own := RX10) (by decide) rfl (Nat.le_of_ble_eq_true rfl) ?_
  intro p e s m below meth c ls C hr hini hl h
  have hl : lv_has ls 6 [(0, .ref (X 0)), (1, .int p0), (2, .int p1), (3, .int p2), (4, .int p3)] := hl
  obtain ⟨hx, hb, hml, hown, hts, hE0, hlk⟩ := id C
  obtain ⟨kx0, kx1, kx2, kx3, kx4, kx5, kx6, kx7, kx8, kx9⟩ := hX
  refine lv_aload_n hx hb dX10_turned_0 rfl (lv_at hl 0 rfl) ?_
  refine q_get C h kx0 fl_X10_19 (v := .ref (X 2)) rfl dX10_turned_1 ?_
  refine lv_iload_n hx hb dX10_turned_4 rfl (lv_at hl 1 rfl) ?_
  refine k_q (r_V C h hl (As := [.int p0]) (rest := []) (c_X0_find l D G b0 f X ⟨kx0, kx1, kx2, kx3, kx4, kx5, kx6, kx7, kx8, kx9⟩ p0) kx2 (Cn := RX0) (T := TX0) (N := 6) rfl rfl mk_X0_find w_594 w_595 w_596 w_597 ⟨Nat.le_of_ble_eq_true rfl, Nat.le_of_ble_eq_true rfl⟩ rfl (Nat.le_of_ble_eq_true rfl) ⟨Nat.le_of_ble_eq_true rfl, Nat.le_of_ble_eq_true rfl⟩ rfl dX10_turned_5) h (fun r_146 f_147 H locs p_148 h => ?_)
  obtain ⟨rfl, rfl⟩ := p_148
  refine lv_astoreN (lv' := [(5, .null), (0, .ref (X 0)), (1, .int p0), (2, .int p1), (3, .int p2), (4, .int p3)]) hx hb dX10_turned_8 hl (by decide) rfl (fun ls hl => ?_)
  refine lv_aloadN hx hb dX10_turned_10 (lv_at hl 0 rfl) ?_
  refine lv_ifnullN (tgt := 39) hx hb dX10_turned_12 (by decide) ?_
  refine lv_iconst (v := -1) hx hb dX10_turned_39 (by decide) ?_
  exact q_iret C h hr (⟨rfl, fun q hq => rfl⟩) (Nat.le_of_ble_eq_true rfl) (Nat.le_of_ble_eq_true rfl) dX10_turned_40
set_option maxRecDepth 100000 in
set_option maxHeartbeats 4000000 in
theorem c_X10_orbit (l : Launch) (D : va_G) (G : Nat → Nat) (b0 : Nat) (f : hM) (bm : Nat) (X : Nat → Nat) (hX : xw G f X) (hB : ∀ i, i < 20 → X i < bm) (p0 : Int32) (p1 : Int32) (p2 : Int32) (p3 : Int32) (p4 : Int32) : mI l yX10_orbit cX10_orbit 9 (.int) { frames := 2, cells := 0, slots := 0, locals := 43 } D G b0 f [.ref (X 0), .int p0, .int p1, .int p2, .int p3, .int p4] (fun r f1 => (-2 : Int32) = r ∧ ∀ q, bm ≤ q → f1 q = f q) := by
  refine met_of (own := RX10) (by decide) rfl (Nat.le_of_ble_eq_true rfl) ?_
  intro p e s m below meth c ls C hr hini hl h
  have hl : lv_has ls 9 [(0, .ref (X 0)), (1, .int p0), (2, .int p1), (3, .int p2), (4, .int p3), (5, .int p4)] := hl
  obtain ⟨hx, hb, hml, hown, hts, hE0, hlk⟩ := id C
  obtain ⟨kx0, kx1, kx2, kx3, kx4, kx5, kx6, kx7, kx8, kx9⟩ := hX
  refine lv_aload_n hx hb dX10_orbit_0 rfl (lv_at hl 0 rfl) ?_
  refine q_get C h kx0 fl_X10_19 (v := .ref (X 2)) rfl dX10_orbit_1 ?_
  refine lv_iload_n hx hb dX10_orbit_4 rfl (lv_at hl 1 rfl) ?_
  refine k_q (r_V C h hl (As := [.int p0]) (rest := []) (c_X0_find l D G b0 f X ⟨kx0, kx1, kx2, kx3, kx4, kx5, kx6, kx7, kx8, kx9⟩ p0) kx2 (Cn := RX0) (T := TX0) (N := 6) rfl rfl mk_X0_find w_594 w_595 w_596 w_597 ⟨Nat.le_of_ble_eq_true rfl, Nat.le_of_ble_eq_true rfl⟩ rfl (Nat.le_of_ble_eq_true rfl) ⟨Nat.le_of_ble_eq_true rfl, Nat.le_of_ble_eq_true rfl⟩ rfl dX10_orbit_5) h (fun r_149 f_150 H locs p_151 h => ?_)
  obtain ⟨rfl, rfl⟩ := p_151
  refine lv_astoreN (lv' := [(6, .null), (0, .ref (X 0)), (1, .int p0), (2, .int p1), (3, .int p2), (4, .int p3), (5, .int p4)]) hx hb dX10_orbit_8 hl (by decide) rfl (fun ls hl => ?_)
  refine lv_iload hx hb dX10_orbit_10 (lv_at hl 5 rfl) ?_
  refine lv_iconst (v := -1) hx hb dX10_orbit_12 (by decide) ?_
  refine lv_icmp_eq (tgt := 26) hx hb dX10_orbit_13 (by decide) (fun c_152 => ?_) (fun c_152 => ?_)
  · refine lv_iconst (v := 1) hx hb dX10_orbit_26 (by decide) ?_
    refine lv_goto (tgt := 31) hx hb dX10_orbit_27 (by decide) ?_
    refine lv_istore (lv' := [(7, .int 1), (6, .null), (0, .ref (X 0)), (1, .int p0), (2, .int p1), (3, .int p2), (4, .int p3), (5, .int p4)]) hx hb dX10_orbit_31 hl (by decide) rfl (fun ls hl => ?_)
    refine lv_aloadN hx hb dX10_orbit_33 (lv_at hl 1 rfl) ?_
    refine lv_ifnullN (tgt := 57) hx hb dX10_orbit_35 (by decide) ?_
    refine lv_bipush (v := -2) hx hb dX10_orbit_57 (by decide) ?_
    exact q_iret C h hr (⟨rfl, fun q hq => rfl⟩) (Nat.le_of_ble_eq_true rfl) (Nat.le_of_ble_eq_true rfl) dX10_orbit_59
  · refine lv_iload hx hb dX10_orbit_16 (lv_at hl 6 rfl) ?_
    refine lv_iconst (v := 0) hx hb dX10_orbit_18 (by decide) ?_
    refine lv_iconst (v := 1) hx hb dX10_orbit_19 (by decide) ?_
    refine k_i (r_S C h hl (As := [.int p4, .int 0, .int 1]) (rest := []) (c_X10_within l D G b0 f  p4 0 1) mk_X10_within w_425 w_426 w_427 ⟨Nat.le_of_ble_eq_true rfl, Nat.le_of_ble_eq_true rfl⟩ rfl (Nat.le_of_ble_eq_true rfl) ⟨Nat.le_of_ble_eq_true rfl, Nat.le_of_ble_eq_true rfl⟩ rfl dX10_orbit_20) h (fun r_153 f_154 H locs p_155 h => ?_)
    obtain ⟨e_, rfl⟩ := p_155
    subst e_
    refine lv_if_eq (tgt := 30) hx hb dX10_orbit_23 (by decide) (fun c_156 => ?_) (fun c_156 => ?_)
    · refine lv_iconst (v := 0) hx hb dX10_orbit_30 (by decide) ?_
      refine lv_istore (lv' := [(7, .int 0), (6, .null), (0, .ref (X 0)), (1, .int p0), (2, .int p1), (3, .int p2), (4, .int p3), (5, .int p4)]) hx hb dX10_orbit_31 hl (by decide) rfl (fun ls hl => ?_)
      refine lv_aloadN hx hb dX10_orbit_33 (lv_at hl 1 rfl) ?_
      refine lv_ifnullN (tgt := 57) hx hb dX10_orbit_35 (by decide) ?_
      refine lv_bipush (v := -2) hx hb dX10_orbit_57 (by decide) ?_
      exact q_iret C h hr (⟨rfl, fun q hq => rfl⟩) (Nat.le_of_ble_eq_true rfl) (Nat.le_of_ble_eq_true rfl) dX10_orbit_59
    · refine lv_iconst (v := 1) hx hb dX10_orbit_26 (by decide) ?_
      refine lv_goto (tgt := 31) hx hb dX10_orbit_27 (by decide) ?_
      refine lv_istore (lv' := [(7, .int 1), (6, .null), (0, .ref (X 0)), (1, .int p0), (2, .int p1), (3, .int p2), (4, .int p3), (5, .int p4)]) hx hb dX10_orbit_31 hl (by decide) rfl (fun ls hl => ?_)
      refine lv_aloadN hx hb dX10_orbit_33 (lv_at hl 1 rfl) ?_
      refine lv_ifnullN (tgt := 57) hx hb dX10_orbit_35 (by decide) ?_
      refine lv_bipush (v := -2) hx hb dX10_orbit_57 (by decide) ?_
      exact q_iret C h hr (⟨rfl, fun q hq => rfl⟩) (Nat.le_of_ble_eq_true rfl) (Nat.le_of_ble_eq_true rfl) dX10_orbit_59
set_option maxRecDepth 100000 in
set_option maxHeartbeats 4000000 in
theorem c_X10_group (l : Launch) (D : va_G) (G : Nat → Nat) (b0 : Nat) (f : hM) (bm : Nat) (X : Nat → Nat) (hX : xw G f X) (hB : ∀ i, i < 20 → X i < bm) (p0 : Int32) : mI l yX10_group cX10_group 3 (.int) { frames := 2, cells := 0, slots := 0, locals := 43 } D G b0 f [.ref (X 0), .int p0] (fun r f1 => (-2 : Int32) = r ∧ ∀ q, bm ≤ q → f1 q = f q) := by
  refine met_of (own := RX10) (by decide) rfl (Nat.le_of_ble_eq_true rfl) ?_
  intro p e s m below meth c ls C hr hini hl h
  have hl : lv_has ls 3 [(0, .ref (X 0)), (1, .int p0)] := hl
  obtain ⟨hx, hb, hml, hown, hts, hE0, hlk⟩ := id C
  obtain ⟨kx0, kx1, kx2, kx3, kx4, kx5, kx6, kx7, kx8, kx9⟩ := hX
  refine lv_aload_n hx hb dX10_group_0 rfl (lv_at hl 0 rfl) ?_
  refine q_get C h kx0 fl_X10_19 (v := .ref (X 2)) rfl dX10_group_1 ?_
  refine lv_iload_n hx hb dX10_group_4 rfl (lv_at hl 1 rfl) ?_
  refine k_q (r_V C h hl (As := [.int p0]) (rest := []) (c_X0_find l D G b0 f X ⟨kx0, kx1, kx2, kx3, kx4, kx5, kx6, kx7, kx8, kx9⟩ p0) kx2 (Cn := RX0) (T := TX0) (N := 6) rfl rfl mk_X0_find w_594 w_595 w_596 w_597 ⟨Nat.le_of_ble_eq_true rfl, Nat.le_of_ble_eq_true rfl⟩ rfl (Nat.le_of_ble_eq_true rfl) ⟨Nat.le_of_ble_eq_true rfl, Nat.le_of_ble_eq_true rfl⟩ rfl dX10_group_5) h (fun r_157 f_158 H locs p_159 h => ?_)
  obtain ⟨rfl, rfl⟩ := p_159
  refine lv_astore_nN (lv' := [(2, .null), (0, .ref (X 0)), (1, .int p0)]) hx hb dX10_group_8 rfl hl (by decide) rfl (fun ls hl => ?_)
  refine lv_aload_nN hx hb dX10_group_9 rfl (lv_at hl 0 rfl) ?_
  refine lv_ifnonnullN hx hb dX10_group_10 ?_
  refine lv_bipush (v := -2) hx hb dX10_group_13 (by decide) ?_
  refine lv_goto (tgt := 26) hx hb dX10_group_15 (by decide) ?_
  exact q_iret C h hr (⟨rfl, fun q hq => rfl⟩) (Nat.le_of_ble_eq_true rfl) (Nat.le_of_ble_eq_true rfl) dX10_group_26
set_option maxRecDepth 100000 in
set_option maxHeartbeats 4000000 in
theorem c_X10_sum (l : Launch) (D : va_G) (G : Nat → Nat) (b0 : Nat) (f : hM) (bm : Nat) (X : Nat → Nat) (hX : xw G f X) (hB : ∀ i, i < 20 → X i < bm) (p0 : Int32) (p1 : Int32) (p2 : Int32) : mI l yX10_sum cX10_sum 6 (.int) { frames := 2, cells := 0, slots := 0, locals := 43 } D G b0 f [.ref (X 0), .int p0, .int p1, .int p2] (fun r f1 => (-2 : Int32) = r ∧ ∀ q, bm ≤ q → f1 q = f q) := by
  refine met_of (own := RX10) (by decide) rfl (Nat.le_of_ble_eq_true rfl) ?_
  intro p e s m below meth c ls C hr hini hl h
  have hl : lv_has ls 6 [(0, .ref (X 0)), (1, .int p0), (2, .int p1), (3, .int p2)] := hl
  obtain ⟨hx, hb, hml, hown, hts, hE0, hlk⟩ := id C
  obtain ⟨kx0, kx1, kx2, kx3, kx4, kx5, kx6, kx7, kx8, kx9⟩ := hX
  refine lv_aload_n hx hb dX10_sum_0 rfl (lv_at hl 0 rfl) ?_
  refine q_get C h kx0 fl_X10_19 (v := .ref (X 2)) rfl dX10_sum_1 ?_
  refine lv_iload_n hx hb dX10_sum_4 rfl (lv_at hl 1 rfl) ?_
  refine k_q (r_V C h hl (As := [.int p0]) (rest := []) (c_X0_find l D G b0 f X ⟨kx0, kx1, kx2, kx3, kx4, kx5, kx6, kx7, kx8, kx9⟩ p0) kx2 (Cn := RX0) (T := TX0) (N := 6) rfl rfl mk_X0_find w_594 w_595 w_596 w_597 ⟨Nat.le_of_ble_eq_true rfl, Nat.le_of_ble_eq_true rfl⟩ rfl (Nat.le_of_ble_eq_true rfl) ⟨Nat.le_of_ble_eq_true rfl, Nat.le_of_ble_eq_true rfl⟩ rfl dX10_sum_5) h (fun r_160 f_161 H locs p_162 h => ?_)
  obtain ⟨rfl, rfl⟩ := p_162
  refine lv_astoreN (lv' := [(4, .null), (0, .ref (X 0)), (1, .int p0), (2, .int p1), (3, .int p2)]) hx hb dX10_sum_8 hl (by decide) rfl (fun ls hl => ?_)
  refine lv_aloadN hx hb dX10_sum_10 (lv_at hl 0 rfl) ?_
  refine lv_ifnullN (tgt := 29) hx hb dX10_sum_12 (by decide) ?_
  refine lv_bipush (v := -2) hx hb dX10_sum_29 (by decide) ?_
  exact q_iret C h hr (⟨rfl, fun q hq => rfl⟩) (Nat.le_of_ble_eq_true rfl) (Nat.le_of_ble_eq_true rfl) dX10_sum_31
set_option maxRecDepth 100000 in
set_option maxHeartbeats 4000000 in
theorem c_X10_noUse (l : Launch) (D : va_G) (G : Nat → Nat) (b0 : Nat) (f : hM) (bm : Nat) (X : Nat → Nat) (hX : xw G f X) (hB : ∀ i, i < 20 → X i < bm) (p0 : Int32) : mI l yX10_noUse cX10_noUse 5 (.int) { frames := 2, cells := 0, slots := 0, locals := 43 } D G b0 f [.ref (X 0), .int p0] (fun r f1 => (-1 : Int32) = r ∧ ∀ q, bm ≤ q → f1 q = f q) := by
  refine met_of (own := RX10) (by decide) rfl (Nat.le_of_ble_eq_true rfl) ?_
  intro p e s m below meth c ls C hr hini hl h
  have hl : lv_has ls 5 [(0, .ref (X 0)), (1, .int p0)] := hl
  obtain ⟨hx, hb, hml, hown, hts, hE0, hlk⟩ := id C
  obtain ⟨kx0, kx1, kx2, kx3, kx4, kx5, kx6, kx7, kx8, kx9⟩ := hX
  refine lv_aload_n hx hb dX10_noUse_0 rfl (lv_at hl 0 rfl) ?_
  refine q_get C h kx0 fl_X10_19 (v := .ref (X 2)) rfl dX10_noUse_1 ?_
  refine lv_iload_n hx hb dX10_noUse_4 rfl (lv_at hl 1 rfl) ?_
  refine k_q (r_V C h hl (As := [.int p0]) (rest := []) (c_X0_find l D G b0 f X ⟨kx0, kx1, kx2, kx3, kx4, kx5, kx6, kx7, kx8, kx9⟩ p0) kx2 (Cn := RX0) (T := TX0) (N := 6) rfl rfl mk_X0_find w_594 w_595 w_596 w_597 ⟨Nat.le_of_ble_eq_true rfl, Nat.le_of_ble_eq_true rfl⟩ rfl (Nat.le_of_ble_eq_true rfl) ⟨Nat.le_of_ble_eq_true rfl, Nat.le_of_ble_eq_true rfl⟩ rfl dX10_noUse_5) h (fun r_163 f_164 H locs p_165 h => ?_)
  obtain ⟨rfl, rfl⟩ := p_165
  refine lv_astore_nN (lv' := [(2, .null), (0, .ref (X 0)), (1, .int p0)]) hx hb dX10_noUse_8 rfl hl (by decide) rfl (fun ls hl => ?_)
  refine lv_aload_nN hx hb dX10_noUse_9 rfl (lv_at hl 0 rfl) ?_
  refine lv_ifnonnullN hx hb dX10_noUse_10 ?_
  refine lv_iconst (v := -1) hx hb dX10_noUse_13 (by decide) ?_
  exact q_iret C h hr (⟨rfl, fun q hq => rfl⟩) (Nat.le_of_ble_eq_true rfl) (Nat.le_of_ble_eq_true rfl) dX10_noUse_14
set_option maxRecDepth 100000 in
set_option maxHeartbeats 4000000 in
theorem c_X10_enough (l : Launch) (D : va_G) (G : Nat → Nat) (b0 : Nat) (f : hM) (bm : Nat) (X : Nat → Nat) (hX : xw G f X) (hB : ∀ i, i < 20 → X i < bm) (p0 : Int32) : mI l yX10_enough cX10_enough 3 (.int) { frames := 2, cells := 0, slots := 0, locals := 43 } D G b0 f [.ref (X 0), .int p0] (fun r f1 => (-1 : Int32) = r ∧ ∀ q, bm ≤ q → f1 q = f q) := by
  refine met_of (own := RX10) (by decide) rfl (Nat.le_of_ble_eq_true rfl) ?_
  intro p e s m below meth c ls C hr hini hl h
  have hl : lv_has ls 3 [(0, .ref (X 0)), (1, .int p0)] := hl
  obtain ⟨hx, hb, hml, hown, hts, hE0, hlk⟩ := id C
  obtain ⟨kx0, kx1, kx2, kx3, kx4, kx5, kx6, kx7, kx8, kx9⟩ := hX
  refine lv_aload_n hx hb dX10_enough_0 rfl (lv_at hl 0 rfl) ?_
  refine q_get C h kx0 fl_X10_19 (v := .ref (X 2)) rfl dX10_enough_1 ?_
  refine lv_iload_n hx hb dX10_enough_4 rfl (lv_at hl 1 rfl) ?_
  refine k_q (r_V C h hl (As := [.int p0]) (rest := []) (c_X0_find l D G b0 f X ⟨kx0, kx1, kx2, kx3, kx4, kx5, kx6, kx7, kx8, kx9⟩ p0) kx2 (Cn := RX0) (T := TX0) (N := 6) rfl rfl mk_X0_find w_594 w_595 w_596 w_597 ⟨Nat.le_of_ble_eq_true rfl, Nat.le_of_ble_eq_true rfl⟩ rfl (Nat.le_of_ble_eq_true rfl) ⟨Nat.le_of_ble_eq_true rfl, Nat.le_of_ble_eq_true rfl⟩ rfl dX10_enough_5) h (fun r_166 f_167 H locs p_168 h => ?_)
  obtain ⟨rfl, rfl⟩ := p_168
  refine lv_astore_nN (lv' := [(2, .null), (0, .ref (X 0)), (1, .int p0)]) hx hb dX10_enough_8 rfl hl (by decide) rfl (fun ls hl => ?_)
  refine lv_aload_nN hx hb dX10_enough_9 rfl (lv_at hl 0 rfl) ?_
  refine lv_ifnonnullN hx hb dX10_enough_10 ?_
  refine lv_iconst (v := -1) hx hb dX10_enough_13 (by decide) ?_
  exact q_iret C h hr (⟨rfl, fun q hq => rfl⟩) (Nat.le_of_ble_eq_true rfl) (Nat.le_of_ble_eq_true rfl) dX10_enough_14
set_option maxRecDepth 100000 in
set_option maxHeartbeats 4000000 in
theorem c_X10_alike (l : Launch) (D : va_G) (G : Nat → Nat) (b0 : Nat) (f : hM) (bm : Nat) (X : Nat → Nat) (hX : xw G f X) (hB : ∀ i, i < 20 → X i < bm) (p0 : Int32) : mI l yX10_alike cX10_alike 5 (.int) { frames := 2, cells := 0, slots := 0, locals := 43 } D G b0 f [.ref (X 0), .int p0] (fun r f1 => (-1 : Int32) = r ∧ ∀ q, bm ≤ q → f1 q = f q) := by
  refine met_of (own := RX10) (by decide) rfl (Nat.le_of_ble_eq_true rfl) ?_
  intro p e s m below meth c ls C hr hini hl h
  have hl : lv_has ls 5 [(0, .ref (X 0)), (1, .int p0)] := hl
  obtain ⟨hx, hb, hml, hown, hts, hE0, hlk⟩ := id C
  obtain ⟨kx0, kx1, kx2, kx3, kx4, kx5, kx6, kx7, kx8, kx9⟩ := hX
  refine lv_aload_n hx hb dX10_alike_0 rfl (lv_at hl 0 rfl) ?_
  refine q_get C h kx0 fl_X10_19 (v := .ref (X 2)) rfl dX10_alike_1 ?_
  refine lv_iload_n hx hb dX10_alike_4 rfl (lv_at hl 1 rfl) ?_
  refine k_q (r_V C h hl (As := [.int p0]) (rest := []) (c_X0_find l D G b0 f X ⟨kx0, kx1, kx2, kx3, kx4, kx5, kx6, kx7, kx8, kx9⟩ p0) kx2 (Cn := RX0) (T := TX0) (N := 6) rfl rfl mk_X0_find w_594 w_595 w_596 w_597 ⟨Nat.le_of_ble_eq_true rfl, Nat.le_of_ble_eq_true rfl⟩ rfl (Nat.le_of_ble_eq_true rfl) ⟨Nat.le_of_ble_eq_true rfl, Nat.le_of_ble_eq_true rfl⟩ rfl dX10_alike_5) h (fun r_169 f_170 H locs p_171 h => ?_)
  obtain ⟨rfl, rfl⟩ := p_171
  refine lv_astore_nN (lv' := [(2, .null), (0, .ref (X 0)), (1, .int p0)]) hx hb dX10_alike_8 rfl hl (by decide) rfl (fun ls hl => ?_)
  refine lv_aload_nN hx hb dX10_alike_9 rfl (lv_at hl 0 rfl) ?_
  refine lv_ifnonnullN hx hb dX10_alike_10 ?_
  refine lv_iconst (v := -1) hx hb dX10_alike_13 (by decide) ?_
  exact q_iret C h hr (⟨rfl, fun q hq => rfl⟩) (Nat.le_of_ble_eq_true rfl) (Nat.le_of_ble_eq_true rfl) dX10_alike_14
set_option maxRecDepth 100000 in
set_option maxHeartbeats 4000000 in
theorem c_X10_recurrence (l : Launch) (D : va_G) (G : Nat → Nat) (b0 : Nat) (f : hM) (bm : Nat) (X : Nat → Nat) (hX : xw G f X) (hB : ∀ i, i < 20 → X i < bm) (p0 : Int32) (p1 : Int32) (p2 : Int32) (p3 : Int32) (p4 : Int32) (p5 : Int32) : mI l yX10_recurrence cX10_recurrence 8 (.int) { frames := 3, cells := 0, slots := 0, locals := 69 } D G b0 f [.ref (X 0), .int p0, .int p1, .int p2, .int p3, .int p4, .int p5] (fun r f1 => (-1000000 : Int32) = r ∧ ∀ q, bm ≤ q → f1 q = f q) := by
  refine met_of (own := RX10) (by decide) rfl (Nat.le_of_ble_eq_true rfl) ?_
  intro p e s m below meth c ls C hr hini hl h
  have hl : lv_has ls 8 [(0, .ref (X 0)), (1, .int p0), (2, .int p1), (3, .int p2), (4, .int p3), (5, .int p4), (6, .int p5)] := hl
  obtain ⟨hx, hb, hml, hown, hts, hE0, hlk⟩ := id C
  obtain ⟨kx0, kx1, kx2, kx3, kx4, kx5, kx6, kx7, kx8, kx9⟩ := hX
  refine lv_aload_n hx hb dX10_recurrence_0 rfl (lv_at hl 0 rfl) ?_
  refine lv_iload_n hx hb dX10_recurrence_1 rfl (lv_at hl 1 rfl) ?_
  refine lv_iload_n hx hb dX10_recurrence_2 rfl (lv_at hl 2 rfl) ?_
  refine lv_iconst (v := 0) hx hb dX10_recurrence_3 (by decide) ?_
  refine lv_iload_n hx hb dX10_recurrence_4 rfl (lv_at hl 3 rfl) ?_
  refine lv_iload hx hb dX10_recurrence_5 (lv_at hl 4 rfl) ?_
  refine k_i (r_V C h hl (As := [.int p0, .int p1, .int 0, .int p2, .int p3]) (rest := []) (c_X10_readies l D G b0 f bm X ⟨kx0, kx1, kx2, kx3, kx4, kx5, kx6, kx7, kx8, kx9⟩ hB p0 p1 0 p2 p3) kx0 (Cn := RX10) (T := TX10) (N := 10) rfl rfl mk_X10_readies w_1026 w_1028 w_27 w_1029 ⟨Nat.le_of_ble_eq_true rfl, Nat.le_of_ble_eq_true rfl⟩ rfl (Nat.le_of_ble_eq_true rfl) ⟨Nat.le_of_ble_eq_true rfl, Nat.le_of_ble_eq_true rfl⟩ rfl dX10_recurrence_7) h (fun r_172 f_173 H locs p_174 h => ?_)
  obtain ⟨rfl, p_174⟩ := p_174
  refine lv_istore (lv' := [(7, .int 0), (0, .ref (X 0)), (1, .int p0), (2, .int p1), (3, .int p2), (4, .int p3), (5, .int p4), (6, .int p5)]) hx hb dX10_recurrence_10 hl (by decide) rfl (fun ls hl => ?_)
  refine lv_iload hx hb dX10_recurrence_12 (lv_at hl 0 rfl) ?_
  refine lv_if_eq (tgt := 55) hx hb dX10_recurrence_14 (by decide) (fun c_175 => ?_) (fun c_175 => ?_)
  · refine lv_ldc (v := -1000000) hx hb hown (hts _ w_772) dX10_recurrence_55 ?_
    exact q_iret C h hr (⟨rfl, fun q hq => (p_174 q hq)⟩) (Nat.le_of_ble_eq_true rfl) (Nat.le_of_ble_eq_true rfl) dX10_recurrence_57
  · exact absurd c_175 (by decide)
set_option maxRecDepth 100000 in
set_option maxHeartbeats 4000000 in
theorem c_X10_fails (l : Launch) (D : va_G) (G : Nat → Nat) (b0 : Nat) (f : hM) (bm : Nat) (X : Nat → Nat) (hX : xw G f X) (hB : ∀ i, i < 20 → X i < bm) (p0 : Int32) (p1 : Int32) (p2 : Int32) (p3 : Int32) : mI l yX10_fails cX10_fails 5 (.int) { frames := 3, cells := 0, slots := 0, locals := 69 } D G b0 f [.ref (X 0), .int p0, .int p1, .int p2, .int p3] (fun r f1 => (-1000000 : Int32) = r ∧ ∀ q, bm ≤ q → f1 q = f q) := by
  refine met_of (own := RX10) (by decide) rfl (Nat.le_of_ble_eq_true rfl) ?_
  intro p e s m below meth c ls C hr hini hl h
  have hl : lv_has ls 5 [(0, .ref (X 0)), (1, .int p0), (2, .int p1), (3, .int p2), (4, .int p3)] := hl
  obtain ⟨hx, hb, hml, hown, hts, hE0, hlk⟩ := id C
  obtain ⟨kx0, kx1, kx2, kx3, kx4, kx5, kx6, kx7, kx8, kx9⟩ := hX
  refine lv_aload_n hx hb dX10_fails_0 rfl (lv_at hl 0 rfl) ?_
  refine lv_iload_n hx hb dX10_fails_1 rfl (lv_at hl 1 rfl) ?_
  refine lv_iload_n hx hb dX10_fails_2 rfl (lv_at hl 2 rfl) ?_
  refine lv_iconst (v := 0) hx hb dX10_fails_3 (by decide) ?_
  refine lv_iload_n hx hb dX10_fails_4 rfl (lv_at hl 3 rfl) ?_
  refine lv_iload hx hb dX10_fails_5 (lv_at hl 4 rfl) ?_
  refine k_i (r_V C h hl (As := [.int p0, .int p1, .int 0, .int p2, .int p3]) (rest := []) (c_X10_readies l D G b0 f bm X ⟨kx0, kx1, kx2, kx3, kx4, kx5, kx6, kx7, kx8, kx9⟩ hB p0 p1 0 p2 p3) kx0 (Cn := RX10) (T := TX10) (N := 10) rfl rfl mk_X10_readies w_1026 w_1028 w_27 w_1029 ⟨Nat.le_of_ble_eq_true rfl, Nat.le_of_ble_eq_true rfl⟩ rfl (Nat.le_of_ble_eq_true rfl) ⟨Nat.le_of_ble_eq_true rfl, Nat.le_of_ble_eq_true rfl⟩ rfl dX10_fails_7) h (fun r_176 f_177 H locs p_178 h => ?_)
  obtain ⟨rfl, p_178⟩ := p_178
  refine lv_if_eq (tgt := 26) hx hb dX10_fails_10 (by decide) (fun c_179 => ?_) (fun c_179 => ?_)
  · refine lv_ldc (v := -1000000) hx hb hown (hts _ w_772) dX10_fails_26 ?_
    exact q_iret C h hr (⟨rfl, fun q hq => (p_178 q hq)⟩) (Nat.le_of_ble_eq_true rfl) (Nat.le_of_ble_eq_true rfl) dX10_fails_28
  · exact absurd c_179 (by decide)
set_option maxRecDepth 100000 in
set_option maxHeartbeats 4000000 in
theorem c_X10_equation (l : Launch) (D : va_G) (G : Nat → Nat) (b0 : Nat) (f : hM) (bm : Nat) (X : Nat → Nat) (hX : xw G f X) (hB : ∀ i, i < 20 → X i < bm) (p0 : Int32) (p1 : Int32) (p2 : Int32) (p3 : Int32) (p4 : Int32) (p5 : Int32) : mI l yX10_equation cX10_equation 8 (.int) { frames := 3, cells := 0, slots := 0, locals := 69 } D G b0 f [.ref (X 0), .int p0, .int p1, .int p2, .int p3, .int p4, .int p5] (fun r f1 => (-1000000 : Int32) = r ∧ ∀ q, bm ≤ q → f1 q = f q) := by
  refine met_of (own := RX10) (by decide) rfl (Nat.le_of_ble_eq_true rfl) ?_
  intro p e s m below meth c ls C hr hini hl h
  have hl : lv_has ls 8 [(0, .ref (X 0)), (1, .int p0), (2, .int p1), (3, .int p2), (4, .int p3), (5, .int p4), (6, .int p5)] := hl
  obtain ⟨hx, hb, hml, hown, hts, hE0, hlk⟩ := id C
  obtain ⟨kx0, kx1, kx2, kx3, kx4, kx5, kx6, kx7, kx8, kx9⟩ := hX
  refine lv_aload_n hx hb dX10_equation_0 rfl (lv_at hl 0 rfl) ?_
  refine lv_iload_n hx hb dX10_equation_1 rfl (lv_at hl 1 rfl) ?_
  refine lv_iload_n hx hb dX10_equation_2 rfl (lv_at hl 2 rfl) ?_
  refine lv_iconst (v := 1) hx hb dX10_equation_3 (by decide) ?_
  refine lv_iload_n hx hb dX10_equation_4 rfl (lv_at hl 3 rfl) ?_
  refine lv_iload hx hb dX10_equation_5 (lv_at hl 4 rfl) ?_
  refine k_i (r_V C h hl (As := [.int p0, .int p1, .int 1, .int p2, .int p3]) (rest := []) (c_X10_readies l D G b0 f bm X ⟨kx0, kx1, kx2, kx3, kx4, kx5, kx6, kx7, kx8, kx9⟩ hB p0 p1 1 p2 p3) kx0 (Cn := RX10) (T := TX10) (N := 10) rfl rfl mk_X10_readies w_1026 w_1028 w_27 w_1029 ⟨Nat.le_of_ble_eq_true rfl, Nat.le_of_ble_eq_true rfl⟩ rfl (Nat.le_of_ble_eq_true rfl) ⟨Nat.le_of_ble_eq_true rfl, Nat.le_of_ble_eq_true rfl⟩ rfl dX10_equation_7) h (fun r_180 f_181 H locs p_182 h => ?_)
  obtain ⟨rfl, p_182⟩ := p_182
  refine lv_istore (lv' := [(7, .int 0), (0, .ref (X 0)), (1, .int p0), (2, .int p1), (3, .int p2), (4, .int p3), (5, .int p4), (6, .int p5)]) hx hb dX10_equation_10 hl (by decide) rfl (fun ls hl => ?_)
  refine lv_iload hx hb dX10_equation_12 (lv_at hl 0 rfl) ?_
  refine lv_if_eq (tgt := 55) hx hb dX10_equation_14 (by decide) (fun c_183 => ?_) (fun c_183 => ?_)
  · refine lv_ldc (v := -1000000) hx hb hown (hts _ w_772) dX10_equation_55 ?_
    exact q_iret C h hr (⟨rfl, fun q hq => (p_182 q hq)⟩) (Nat.le_of_ble_eq_true rfl) (Nat.le_of_ble_eq_true rfl) dX10_equation_57
  · exact absurd c_183 (by decide)
set_option maxRecDepth 100000 in
set_option maxHeartbeats 4000000 in
theorem c_X10_breaks (l : Launch) (D : va_G) (G : Nat → Nat) (b0 : Nat) (f : hM) (bm : Nat) (X : Nat → Nat) (hX : xw G f X) (hB : ∀ i, i < 20 → X i < bm) (p0 : Int32) (p1 : Int32) (p2 : Int32) (p3 : Int32) : mI l yX10_breaks cX10_breaks 5 (.int) { frames := 3, cells := 0, slots := 0, locals := 69 } D G b0 f [.ref (X 0), .int p0, .int p1, .int p2, .int p3] (fun r f1 => (-1000000 : Int32) = r ∧ ∀ q, bm ≤ q → f1 q = f q) := by
  refine met_of (own := RX10) (by decide) rfl (Nat.le_of_ble_eq_true rfl) ?_
  intro p e s m below meth c ls C hr hini hl h
  have hl : lv_has ls 5 [(0, .ref (X 0)), (1, .int p0), (2, .int p1), (3, .int p2), (4, .int p3)] := hl
  obtain ⟨hx, hb, hml, hown, hts, hE0, hlk⟩ := id C
  obtain ⟨kx0, kx1, kx2, kx3, kx4, kx5, kx6, kx7, kx8, kx9⟩ := hX
  refine lv_aload_n hx hb dX10_breaks_0 rfl (lv_at hl 0 rfl) ?_
  refine lv_iload_n hx hb dX10_breaks_1 rfl (lv_at hl 1 rfl) ?_
  refine lv_iload_n hx hb dX10_breaks_2 rfl (lv_at hl 2 rfl) ?_
  refine lv_iconst (v := 1) hx hb dX10_breaks_3 (by decide) ?_
  refine lv_iload_n hx hb dX10_breaks_4 rfl (lv_at hl 3 rfl) ?_
  refine lv_iload hx hb dX10_breaks_5 (lv_at hl 4 rfl) ?_
  refine k_i (r_V C h hl (As := [.int p0, .int p1, .int 1, .int p2, .int p3]) (rest := []) (c_X10_readies l D G b0 f bm X ⟨kx0, kx1, kx2, kx3, kx4, kx5, kx6, kx7, kx8, kx9⟩ hB p0 p1 1 p2 p3) kx0 (Cn := RX10) (T := TX10) (N := 10) rfl rfl mk_X10_readies w_1026 w_1028 w_27 w_1029 ⟨Nat.le_of_ble_eq_true rfl, Nat.le_of_ble_eq_true rfl⟩ rfl (Nat.le_of_ble_eq_true rfl) ⟨Nat.le_of_ble_eq_true rfl, Nat.le_of_ble_eq_true rfl⟩ rfl dX10_breaks_7) h (fun r_184 f_185 H locs p_186 h => ?_)
  obtain ⟨rfl, p_186⟩ := p_186
  refine lv_if_eq (tgt := 26) hx hb dX10_breaks_10 (by decide) (fun c_187 => ?_) (fun c_187 => ?_)
  · refine lv_ldc (v := -1000000) hx hb hown (hts _ w_772) dX10_breaks_26 ?_
    exact q_iret C h hr (⟨rfl, fun q hq => (p_186 q hq)⟩) (Nat.le_of_ble_eq_true rfl) (Nat.le_of_ble_eq_true rfl) dX10_breaks_28
  · exact absurd c_187 (by decide)
set_option maxRecDepth 100000 in
set_option maxHeartbeats 4000000 in
theorem c_X10_least (l : Launch) (D : va_G) (G : Nat → Nat) (b0 : Nat) (f : hM) (bm : Nat) (X : Nat → Nat) (hX : xw G f X) (hB : ∀ i, i < 20 → X i < bm) (p0 : Int32) (p1 : Int32) (p2 : Int32) : mI l yX10_least cX10_least 5 (.int) { frames := 2, cells := 0, slots := 0, locals := 43 } D G b0 f [.ref (X 0), .int p0, .int p1, .int p2] (fun r f1 => (-1000000 : Int32) = r ∧ ∀ q, bm ≤ q → f1 q = f q) := by
  refine met_of (own := RX10) (by decide) rfl (Nat.le_of_ble_eq_true rfl) ?_
  intro p e s m below meth c ls C hr hini hl h
  have hl : lv_has ls 5 [(0, .ref (X 0)), (1, .int p0), (2, .int p1), (3, .int p2)] := hl
  obtain ⟨hx, hb, hml, hown, hts, hE0, hlk⟩ := id C
  obtain ⟨kx0, kx1, kx2, kx3, kx4, kx5, kx6, kx7, kx8, kx9⟩ := hX
  refine lv_aload_n hx hb dX10_least_0 rfl (lv_at hl 0 rfl) ?_
  refine q_get C h kx0 fl_X10_19 (v := .ref (X 2)) rfl dX10_least_1 ?_
  refine lv_iload_n hx hb dX10_least_4 rfl (lv_at hl 1 rfl) ?_
  refine k_q (r_V C h hl (As := [.int p0]) (rest := []) (c_X0_find l D G b0 f X ⟨kx0, kx1, kx2, kx3, kx4, kx5, kx6, kx7, kx8, kx9⟩ p0) kx2 (Cn := RX0) (T := TX0) (N := 6) rfl rfl mk_X0_find w_594 w_595 w_596 w_597 ⟨Nat.le_of_ble_eq_true rfl, Nat.le_of_ble_eq_true rfl⟩ rfl (Nat.le_of_ble_eq_true rfl) ⟨Nat.le_of_ble_eq_true rfl, Nat.le_of_ble_eq_true rfl⟩ rfl dX10_least_5) h (fun r_188 f_189 H locs p_190 h => ?_)
  obtain ⟨rfl, rfl⟩ := p_190
  refine lv_astoreN (lv' := [(4, .null), (0, .ref (X 0)), (1, .int p0), (2, .int p1), (3, .int p2)]) hx hb dX10_least_8 hl (by decide) rfl (fun ls hl => ?_)
  refine lv_aloadN hx hb dX10_least_10 (lv_at hl 0 rfl) ?_
  refine lv_ifnullN (tgt := 31) hx hb dX10_least_12 (by decide) ?_
  refine lv_ldc (v := -1000000) hx hb hown (hts _ w_772) dX10_least_31 ?_
  exact q_iret C h hr (⟨rfl, fun q hq => rfl⟩) (Nat.le_of_ble_eq_true rfl) (Nat.le_of_ble_eq_true rfl) dX10_least_33
set_option maxRecDepth 100000 in
set_option maxHeartbeats 4000000 in
theorem c_X10_written (l : Launch) (D : va_G) (G : Nat → Nat) (b0 : Nat) (f : hM) (bm : Nat) (X : Nat → Nat) (hX : xw G f X) (hB : ∀ i, i < 20 → X i < bm) (p0 : Int32) (p1 : Int32) : mI l yX10_written cX10_written 4 (.int) { frames := 2, cells := 0, slots := 0, locals := 43 } D G b0 f [.ref (X 0), .int p0, .int p1] (fun r f1 => (-1 : Int32) = r ∧ ∀ q, bm ≤ q → f1 q = f q) := by
  refine met_of (own := RX10) (by decide) rfl (Nat.le_of_ble_eq_true rfl) ?_
  intro p e s m below meth c ls C hr hini hl h
  have hl : lv_has ls 4 [(0, .ref (X 0)), (1, .int p0), (2, .int p1)] := hl
  obtain ⟨hx, hb, hml, hown, hts, hE0, hlk⟩ := id C
  obtain ⟨kx0, kx1, kx2, kx3, kx4, kx5, kx6, kx7, kx8, kx9⟩ := hX
  refine lv_aload_n hx hb dX10_written_0 rfl (lv_at hl 0 rfl) ?_
  refine q_get C h kx0 fl_X10_19 (v := .ref (X 2)) rfl dX10_written_1 ?_
  refine lv_iload_n hx hb dX10_written_4 rfl (lv_at hl 1 rfl) ?_
  refine k_q (r_V C h hl (As := [.int p0]) (rest := []) (c_X0_find l D G b0 f X ⟨kx0, kx1, kx2, kx3, kx4, kx5, kx6, kx7, kx8, kx9⟩ p0) kx2 (Cn := RX0) (T := TX0) (N := 6) rfl rfl mk_X0_find w_594 w_595 w_596 w_597 ⟨Nat.le_of_ble_eq_true rfl, Nat.le_of_ble_eq_true rfl⟩ rfl (Nat.le_of_ble_eq_true rfl) ⟨Nat.le_of_ble_eq_true rfl, Nat.le_of_ble_eq_true rfl⟩ rfl dX10_written_5) h (fun r_191 f_192 H locs p_193 h => ?_)
  obtain ⟨rfl, rfl⟩ := p_193
  refine lv_astore_nN (lv' := [(3, .null), (0, .ref (X 0)), (1, .int p0), (2, .int p1)]) hx hb dX10_written_8 rfl hl (by decide) rfl (fun ls hl => ?_)
  refine lv_aload_nN hx hb dX10_written_9 rfl (lv_at hl 0 rfl) ?_
  refine lv_ifnonnullN hx hb dX10_written_10 ?_
  refine lv_iconst (v := -1) hx hb dX10_written_13 (by decide) ?_
  exact q_iret C h hr (⟨rfl, fun q hq => rfl⟩) (Nat.le_of_ble_eq_true rfl) (Nat.le_of_ble_eq_true rfl) dX10_written_14
