theorem dX7_isLetter_0 : decode cX7_isLetter 0 = .ok (.aload_n 0, 1) := by decide +kernel
theorem dX7_isLetter_1 : decode cX7_isLetter 1 = .ok (.getfield 11, 3) := by decide +kernel
theorem dX7_isLetter_4 : decode cX7_isLetter 4 = .ok (.iload_n 1, 1) := by decide +kernel
theorem dX7_isLetter_5 : decode cX7_isLetter 5 = .ok (.iaload, 1) := by decide +kernel
theorem dX7_isLetter_6 : decode cX7_isLetter 6 = .ok (.bipush 97, 2) := by decide +kernel
theorem dX7_isLetter_8 : decode cX7_isLetter 8 = .ok (.bipush 122, 2) := by decide +kernel
theorem dX7_isLetter_10 : decode cX7_isLetter 10 = .ok (.invokestatic 66, 3) := by decide +kernel
theorem dX7_isLetter_13 : decode cX7_isLetter 13 = .ok (.ireturn, 1) := by decide +kernel
theorem dX7_isDigit_0 : decode cX7_isDigit 0 = .ok (.aload_n 0, 1) := by decide +kernel
theorem dX7_isDigit_1 : decode cX7_isDigit 1 = .ok (.getfield 11, 3) := by decide +kernel
theorem dX7_isDigit_4 : decode cX7_isDigit 4 = .ok (.iload_n 1, 1) := by decide +kernel
theorem dX7_isDigit_5 : decode cX7_isDigit 5 = .ok (.iaload, 1) := by decide +kernel
theorem dX7_isDigit_6 : decode cX7_isDigit 6 = .ok (.bipush 48, 2) := by decide +kernel
theorem dX7_isDigit_8 : decode cX7_isDigit 8 = .ok (.bipush 57, 2) := by decide +kernel
theorem dX7_isDigit_10 : decode cX7_isDigit 10 = .ok (.invokestatic 66, 3) := by decide +kernel
theorem dX7_isDigit_13 : decode cX7_isDigit 13 = .ok (.ireturn, 1) := by decide +kernel
theorem dX7_partEnd_0 : decode cX7_partEnd 0 = .ok (.iload_n 1, 1) := by decide +kernel
theorem dX7_partEnd_1 : decode cX7_partEnd 1 = .ok (.iconst 1, 1) := by decide +kernel
theorem dX7_partEnd_2 : decode cX7_partEnd 2 = .ok (.iadd, 1) := by decide +kernel
theorem dX7_partEnd_3 : decode cX7_partEnd 3 = .ok (.istore_n 2, 1) := by decide +kernel
theorem dX7_partEnd_4 : decode cX7_partEnd 4 = .ok (.aload_n 0, 1) := by decide +kernel
theorem dX7_partEnd_5 : decode cX7_partEnd 5 = .ok (.iload_n 1, 1) := by decide +kernel
theorem dX7_partEnd_6 : decode cX7_partEnd 6 = .ok (.invokevirtual 59, 3) := by decide +kernel
theorem w_443 : Cond.methodLink "QuarterWalks$Tape" 59 yX7_isLetter ∈ wAll := wI2 108 (by decide +kernel) (by decide +kernel)
theorem w_1 : Cond.selects yX7_isLetter.cls yX7_isLetter yX7_isLetter ∈ wAll := wIn 1 (by decide +kernel) (by decide +kernel)
theorem mk_X7_isLetter : mk yX7_isLetter 1 := ⟨by decide +kernel, w_97⟩
theorem w_445 : Cond.instanceMethod yX7_isLetter ∈ wAll := wI2 110 (by decide +kernel) (by decide +kernel)
theorem w_446 : Cond.code yX7_isLetter cX7_isLetter 2 (some .boolean) ∈ wAll := wI2 111 (by decide +kernel) (by decide +kernel)
theorem dX7_partEnd_9 : decode cX7_partEnd 9 = .ok (.ifCond .eq 25, 3) := by decide +kernel
theorem dX7_partEnd_34 : decode cX7_partEnd 34 = .ok (.aload_n 0, 1) := by decide +kernel
theorem dX7_partEnd_35 : decode cX7_partEnd 35 = .ok (.iload_n 1, 1) := by decide +kernel
theorem dX7_partEnd_36 : decode cX7_partEnd 36 = .ok (.invokevirtual 63, 3) := by decide +kernel
theorem w_448 : Cond.methodLink "QuarterWalks$Tape" 63 yX7_isDigit ∈ wAll := wI2 113 (by decide +kernel) (by decide +kernel)
theorem w_2 : Cond.selects yX7_isDigit.cls yX7_isDigit yX7_isDigit ∈ wAll := wIn 2 (by decide +kernel) (by decide +kernel)
theorem mk_X7_isDigit : mk yX7_isDigit 1 := ⟨by decide +kernel, w_97⟩
theorem w_450 : Cond.instanceMethod yX7_isDigit ∈ wAll := wI2 115 (by decide +kernel) (by decide +kernel)
theorem w_451 : Cond.code yX7_isDigit cX7_isDigit 2 (some .boolean) ∈ wAll := wI2 116 (by decide +kernel) (by decide +kernel)
theorem dX7_partEnd_39 : decode cX7_partEnd 39 = .ok (.ifCond .eq 25, 3) := by decide +kernel
theorem dX7_partEnd_64 : decode cX7_partEnd 64 = .ok (.iload_n 2, 1) := by decide +kernel
theorem dX7_partEnd_12 : decode cX7_partEnd 12 = .ok (.iload_n 2, 1) := by decide +kernel
theorem dX7_partEnd_13 : decode cX7_partEnd 13 = .ok (.aload_n 0, 1) := by decide +kernel
theorem dX7_partEnd_14 : decode cX7_partEnd 14 = .ok (.getfield 18, 3) := by decide +kernel
theorem dX7_partEnd_17 : decode cX7_partEnd 17 = .ok (.if_icmp .ge 47, 3) := by decide +kernel
theorem dX7_partEnd_20 : decode cX7_partEnd 20 = .ok (.aload_n 0, 1) := by decide +kernel
theorem dX7_partEnd_21 : decode cX7_partEnd 21 = .ok (.iload_n 2, 1) := by decide +kernel
theorem dX7_partEnd_22 : decode cX7_partEnd 22 = .ok (.invokevirtual 59, 3) := by decide +kernel
theorem dX7_partEnd_25 : decode cX7_partEnd 25 = .ok (.ifCond .eq 39, 3) := by decide +kernel
theorem dX7_partEnd_28 : decode cX7_partEnd 28 = .ok (.iinc 2 1, 3) := by decide +kernel
theorem dX7_partEnd_31 : decode cX7_partEnd 31 = .ok (.goto (-19), 3) := by decide +kernel
theorem dX7_partEnd_42 : decode cX7_partEnd 42 = .ok (.iload_n 2, 1) := by decide +kernel
theorem dX7_partEnd_43 : decode cX7_partEnd 43 = .ok (.aload_n 0, 1) := by decide +kernel
theorem dX7_partEnd_44 : decode cX7_partEnd 44 = .ok (.getfield 18, 3) := by decide +kernel
theorem dX7_partEnd_47 : decode cX7_partEnd 47 = .ok (.if_icmp .ge 17, 3) := by decide +kernel
theorem dX7_partEnd_50 : decode cX7_partEnd 50 = .ok (.aload_n 0, 1) := by decide +kernel
theorem dX7_partEnd_51 : decode cX7_partEnd 51 = .ok (.iload_n 2, 1) := by decide +kernel
theorem dX7_partEnd_52 : decode cX7_partEnd 52 = .ok (.invokevirtual 63, 3) := by decide +kernel
theorem dX7_partEnd_55 : decode cX7_partEnd 55 = .ok (.ifCond .eq 9, 3) := by decide +kernel
theorem dX7_partEnd_58 : decode cX7_partEnd 58 = .ok (.iinc 2 1, 3) := by decide +kernel
theorem dX7_partEnd_61 : decode cX7_partEnd 61 = .ok (.goto (-19), 3) := by decide +kernel
theorem dX7_partEnd_65 : decode cX7_partEnd 65 = .ok (.ireturn, 1) := by decide +kernel
theorem dX7_takesNumber_0 : decode cX7_takesNumber 0 = .ok (.aload_n 0, 1) := by decide +kernel
theorem dX7_takesNumber_1 : decode cX7_takesNumber 1 = .ok (.getfield 39, 3) := by decide +kernel
theorem w_144 : Cond.fieldLink "QuarterWalks$Tape" 39 "QuarterWalks$Tape" "behind" "I" ∈ wAll := wI1 49 (by decide +kernel) (by decide +kernel)
theorem fl_X7_39 : fl RX7 39 8 5 := ⟨RX7, TX7, 7, rfl, inA_X7, by decide, w_144⟩
theorem dX7_takesNumber_4 : decode cX7_takesNumber 4 = .ok (.iconst 1, 1) := by decide +kernel
theorem dX7_takesNumber_5 : decode cX7_takesNumber 5 = .ok (.if_icmp .ne 24, 3) := by decide +kernel
theorem dX7_takesNumber_29 : decode cX7_takesNumber 29 = .ok (.aload_n 0, 1) := by decide +kernel
theorem dX7_takesNumber_30 : decode cX7_takesNumber 30 = .ok (.getfield 39, 3) := by decide +kernel
theorem dX7_takesNumber_33 : decode cX7_takesNumber 33 = .ok (.iconst 4, 1) := by decide +kernel
theorem dX7_takesNumber_34 : decode cX7_takesNumber 34 = .ok (.if_icmp .ne 15, 3) := by decide +kernel
theorem dX7_takesNumber_49 : decode cX7_takesNumber 49 = .ok (.aload_n 0, 1) := by decide +kernel
theorem dX7_takesNumber_50 : decode cX7_takesNumber 50 = .ok (.getfield 39, 3) := by decide +kernel
theorem dX7_takesNumber_53 : decode cX7_takesNumber 53 = .ok (.iconst 5, 1) := by decide +kernel
theorem dX7_takesNumber_54 : decode cX7_takesNumber 54 = .ok (.if_icmp .ne 16, 3) := by decide +kernel
theorem dX7_takesNumber_70 : decode cX7_takesNumber 70 = .ok (.iconst 0, 1) := by decide +kernel
theorem dX7_takesNumber_57 : decode cX7_takesNumber 57 = .ok (.aload_n 0, 1) := by decide +kernel
theorem dX7_takesNumber_58 : decode cX7_takesNumber 58 = .ok (.iload_n 1, 1) := by decide +kernel
theorem dX7_takesNumber_59 : decode cX7_takesNumber 59 = .ok (.putfield 27, 3) := by decide +kernel
theorem w_143 : Cond.fieldLink "QuarterWalks$Tape" 27 "QuarterWalks$Tape" "startY" "I" ∈ wAll := wI1 48 (by decide +kernel) (by decide +kernel)
theorem flw_X7_27 : flw RX7 27 8 4 (.int) := ⟨RX7, TX7, 7, tyX7, rfl, inA_X7, by decide, w_143, tyX7_ok, nmX7, by decide +kernel, Or.inl rfl⟩
theorem dX7_takesNumber_62 : decode cX7_takesNumber 62 = .ok (.aload_n 0, 1) := by decide +kernel
theorem dX7_takesNumber_63 : decode cX7_takesNumber 63 = .ok (.bipush 6, 2) := by decide +kernel
theorem dX7_takesNumber_65 : decode cX7_takesNumber 65 = .ok (.putfield 39, 3) := by decide +kernel
theorem flw_X7_39 : flw RX7 39 8 5 (.int) := ⟨RX7, TX7, 7, tyX7, rfl, inA_X7, by decide, w_144, tyX7_ok, nmX7, by decide +kernel, Or.inl rfl⟩
theorem dX7_takesNumber_68 : decode cX7_takesNumber 68 = .ok (.iconst 1, 1) := by decide +kernel
theorem dX7_takesNumber_37 : decode cX7_takesNumber 37 = .ok (.aload_n 0, 1) := by decide +kernel
theorem dX7_takesNumber_38 : decode cX7_takesNumber 38 = .ok (.iload_n 1, 1) := by decide +kernel
theorem dX7_takesNumber_39 : decode cX7_takesNumber 39 = .ok (.putfield 24, 3) := by decide +kernel
theorem w_142 : Cond.fieldLink "QuarterWalks$Tape" 24 "QuarterWalks$Tape" "startX" "I" ∈ wAll := wI1 47 (by decide +kernel) (by decide +kernel)
theorem flw_X7_24 : flw RX7 24 8 3 (.int) := ⟨RX7, TX7, 7, tyX7, rfl, inA_X7, by decide, w_142, tyX7_ok, nmX7, by decide +kernel, Or.inl rfl⟩
theorem dX7_takesNumber_42 : decode cX7_takesNumber 42 = .ok (.aload_n 0, 1) := by decide +kernel
theorem dX7_takesNumber_43 : decode cX7_takesNumber 43 = .ok (.iconst 5, 1) := by decide +kernel
theorem dX7_takesNumber_44 : decode cX7_takesNumber 44 = .ok (.putfield 39, 3) := by decide +kernel
theorem dX7_takesNumber_47 : decode cX7_takesNumber 47 = .ok (.iconst 1, 1) := by decide +kernel
theorem dX7_takesNumber_8 : decode cX7_takesNumber 8 = .ok (.iload_n 1, 1) := by decide +kernel
theorem dX7_takesNumber_9 : decode cX7_takesNumber 9 = .ok (.ifCond .eq 20, 3) := by decide +kernel
theorem dX7_takesNumber_12 : decode cX7_takesNumber 12 = .ok (.aload_n 0, 1) := by decide +kernel
theorem dX7_takesNumber_13 : decode cX7_takesNumber 13 = .ok (.getfield 15, 3) := by decide +kernel
theorem w_141 : Cond.fieldLink "QuarterWalks$Tape" 15 "QuarterWalks$Tape" "weights" "[I" ∈ wAll := wI1 46 (by decide +kernel) (by decide +kernel)
theorem fl_X7_15 : fl RX7 15 8 2 := ⟨RX7, TX7, 7, rfl, inA_X7, by decide, w_141⟩
theorem dX7_takesNumber_16 : decode cX7_takesNumber 16 = .ok (.aload_n 0, 1) := by decide +kernel
theorem dX7_takesNumber_17 : decode cX7_takesNumber 17 = .ok (.getfield 42, 3) := by decide +kernel
theorem w_145 : Cond.fieldLink "QuarterWalks$Tape" 42 "QuarterWalks$Tape" "lastStep" "I" ∈ wAll := wI1 50 (by decide +kernel) (by decide +kernel)
theorem fl_X7_42 : fl RX7 42 8 6 := ⟨RX7, TX7, 7, rfl, inA_X7, by decide, w_145⟩
theorem dX7_takesNumber_20 : decode cX7_takesNumber 20 = .ok (.iload_n 1, 1) := by decide +kernel
theorem dX7_takesNumber_21 : decode cX7_takesNumber 21 = .ok (.iastore, 1) := by decide +kernel
theorem dX7_takesNumber_22 : decode cX7_takesNumber 22 = .ok (.aload_n 0, 1) := by decide +kernel
theorem dX7_takesNumber_23 : decode cX7_takesNumber 23 = .ok (.iconst 2, 1) := by decide +kernel
theorem dX7_takesNumber_24 : decode cX7_takesNumber 24 = .ok (.putfield 39, 3) := by decide +kernel
theorem dX7_takesNumber_27 : decode cX7_takesNumber 27 = .ok (.iconst 1, 1) := by decide +kernel
theorem dX7_takesNumber_71 : decode cX7_takesNumber 71 = .ok (.ireturn, 1) := by decide +kernel
theorem dX7_takesNumber_69 : decode cX7_takesNumber 69 = .ok (.ireturn, 1) := by decide +kernel
theorem dX7_takesNumber_48 : decode cX7_takesNumber 48 = .ok (.ireturn, 1) := by decide +kernel
theorem dX7_takesNumber_28 : decode cX7_takesNumber 28 = .ok (.ireturn, 1) := by decide +kernel
abbrev rm_s_X7_isLetterX : Room := { frames := 1, cells := 0, slots := 0, locals := 22 }
set_option maxRecDepth 100000 in
set_option maxHeartbeats 4000000 in
theorem s_X7_isLetterX (l : Launch) (D : va_G) (G : Nat → Nat) (b0 : Nat) (τ : Nat → Nat) (f : hM) (t : TI G 9 τ f) (u0 : Nat) (hu0 : τ u0 = 11) (u1 : Int32) (hu1 : iv u1 0 199) (tq : Nat) (htq : τ tq = 13) (k_u0_1 : atp f u0 (fd 1 (.ref tq))) (rt : Nat → Int32) (hRtq : atp f tq (eqc (.inl (G 1, 200, .inl rt)))) : mI l yX7_isLetter cX7_isLetter 2 (.boolean) rm_s_X7_isLetterX D G b0 f [.ref u0, .int u1] (fun r f1 => iv r 0 1 ∧ TI G 9 τ f1 ∧ Fr [] τ f f1 ∧ (r.toInt ≠ 0 → (97 ≤ tb rt u1.toInt.toNat ∧ tb rt u1.toInt.toNat ≤ 122)) ∧ (r.toInt = 0 → (¬ (97 ≤ tb rt u1.toInt.toNat ∧ tb rt u1.toInt.toNat ≤ 122)))) := by
  refine met2 (own := RX7) (by decide) rfl (Nat.le_of_ble_eq_true rfl) ?_
  intro p e s m args below meth c ls Q hQ C hr hini hl h
  have hl : lv_has ls 2 [(0, .ref u0), (1, .int u1)] := hl
  obtain ⟨hx, hb, hml, hown, hts, hE0, hlk⟩ := id C
  have o := Fr.rf [] τ f
  refine lv_aload_n hx hb dX7_isLetter_0 rfl (lv_at hl 0 rfl) ?_
  refine t_getfd C h t hu0 (by decide) wf_11 (v := .ref tq) k_u0_1 fl_X7_11 dX7_isLetter_1 ?_
  refine lv_iload_n hx hb dX7_isLetter_4 rfl (lv_at hl 1 rfl) ?_
  refine e_iald C h t htq (by decide) wf_13 hRtq (iv_in hu1 (by decide)) dX7_isLetter_5 (fun z1 ez1 iz1 => ?_)
  have mz1 := congrArg Int32.toInt ez1
  refine lv_bipush (v := 97) hx hb dX7_isLetter_6 (by decide) ?_
  refine lv_bipush (v := 122) hx hb dX7_isLetter_8 (by decide) ?_
  refine k_i (r_SN C h hl (host := "QuarterWalks") (As := [.int z1, .int 97, .int 122]) (rest := []) (s_X10_within l D G b0 τ f t z1 (iv_w iz1 (by decide)) 97 (iv_w (iv_k (x := 97) (k := 97) rfl) (by decide)) 122 (iv_w (iv_k (x := 122) (k := 122) rfl) (by decide))) mk_X10_within (by decide) w_426 w_427 ⟨Nat.le_of_ble_eq_true rfl, Nat.le_of_ble_eq_true rfl⟩ rfl (Nat.le_of_ble_eq_true rfl) ⟨Nat.le_of_ble_eq_true rfl, Nat.le_of_ble_eq_true rfl⟩ rfl dX7_isLetter_10) h (fun r2 f3 H locs p4 h => ?_)
  have n5 : (97 : Int32).toInt = 97 := rfl
  have n6 : (122 : Int32).toInt = 122 := rfl
  obtain ⟨ir2, tf3, ogf3, cnr2, czr2⟩ := p4
  have egf3 := Fr.nil2 ogf3
  subst egf3
  exact u_zret C h hr hQ ir2 (⟨ir2, t, o, (by intro h_; unfold tb; have h9_ := cnr2 h_; omega), (by intro h_; unfold tb; have h9_ := czr2 h_; omega)⟩) (Nat.le_of_ble_eq_true rfl) (Nat.le_of_ble_eq_true rfl) dX7_isLetter_13
abbrev rm_s_X7_isDigitX : Room := { frames := 1, cells := 0, slots := 0, locals := 22 }
set_option maxRecDepth 100000 in
set_option maxHeartbeats 4000000 in
theorem s_X7_isDigitX (l : Launch) (D : va_G) (G : Nat → Nat) (b0 : Nat) (τ : Nat → Nat) (f : hM) (t : TI G 9 τ f) (u0 : Nat) (hu0 : τ u0 = 11) (u1 : Int32) (hu1 : iv u1 0 199) (tq : Nat) (htq : τ tq = 13) (k_u0_1 : atp f u0 (fd 1 (.ref tq))) (rt : Nat → Int32) (hRtq : atp f tq (eqc (.inl (G 1, 200, .inl rt)))) : mI l yX7_isDigit cX7_isDigit 2 (.boolean) rm_s_X7_isDigitX D G b0 f [.ref u0, .int u1] (fun r f1 => iv r 0 1 ∧ TI G 9 τ f1 ∧ Fr [] τ f f1 ∧ (r.toInt ≠ 0 → (48 ≤ tb rt u1.toInt.toNat ∧ tb rt u1.toInt.toNat ≤ 57)) ∧ (r.toInt = 0 → (¬ (48 ≤ tb rt u1.toInt.toNat ∧ tb rt u1.toInt.toNat ≤ 57)))) := by
  refine met2 (own := RX7) (by decide) rfl (Nat.le_of_ble_eq_true rfl) ?_
  intro p e s m args below meth c ls Q hQ C hr hini hl h
  have hl : lv_has ls 2 [(0, .ref u0), (1, .int u1)] := hl
  obtain ⟨hx, hb, hml, hown, hts, hE0, hlk⟩ := id C
  have o := Fr.rf [] τ f
  refine lv_aload_n hx hb dX7_isDigit_0 rfl (lv_at hl 0 rfl) ?_
  refine t_getfd C h t hu0 (by decide) wf_11 (v := .ref tq) k_u0_1 fl_X7_11 dX7_isDigit_1 ?_
  refine lv_iload_n hx hb dX7_isDigit_4 rfl (lv_at hl 1 rfl) ?_
  refine e_iald C h t htq (by decide) wf_13 hRtq (iv_in hu1 (by decide)) dX7_isDigit_5 (fun z1 ez1 iz1 => ?_)
  have mz1 := congrArg Int32.toInt ez1
  refine lv_bipush (v := 48) hx hb dX7_isDigit_6 (by decide) ?_
  refine lv_bipush (v := 57) hx hb dX7_isDigit_8 (by decide) ?_
  refine k_i (r_SN C h hl (host := "QuarterWalks") (As := [.int z1, .int 48, .int 57]) (rest := []) (s_X10_within l D G b0 τ f t z1 (iv_w iz1 (by decide)) 48 (iv_w (iv_k (x := 48) (k := 48) rfl) (by decide)) 57 (iv_w (iv_k (x := 57) (k := 57) rfl) (by decide))) mk_X10_within (by decide) w_426 w_427 ⟨Nat.le_of_ble_eq_true rfl, Nat.le_of_ble_eq_true rfl⟩ rfl (Nat.le_of_ble_eq_true rfl) ⟨Nat.le_of_ble_eq_true rfl, Nat.le_of_ble_eq_true rfl⟩ rfl dX7_isDigit_10) h (fun r2 f3 H locs p4 h => ?_)
  have n5 : (48 : Int32).toInt = 48 := rfl
  have n6 : (57 : Int32).toInt = 57 := rfl
  obtain ⟨ir2, tf3, ogf3, cnr2, czr2⟩ := p4
  have egf3 := Fr.nil2 ogf3
  subst egf3
  exact u_zret C h hr hQ ir2 (⟨ir2, t, o, (by intro h_; unfold tb; have h9_ := cnr2 h_; omega), (by intro h_; unfold tb; have h9_ := czr2 h_; omega)⟩) (Nat.le_of_ble_eq_true rfl) (Nat.le_of_ble_eq_true rfl) dX7_isDigit_13
abbrev rm_s_X7_partEndX : Room := { frames := 2, cells := 0, slots := 0, locals := 43 }
set_option maxRecDepth 100000 in
set_option maxHeartbeats 4000000 in
theorem s_X7_partEndX (l : Launch) (D : va_G) (G : Nat → Nat) (b0 : Nat) (τ : Nat → Nat) (f : hM) (t : TI G 9 τ f) (u0 : Nat) (hu0 : τ u0 = 11) (u1 : Int32) (hu1 : iv u1 0 199) (ln : Int32) (hln : iv ln 0 200) (k_u0_0 : atp f u0 (fd 0 (.int ln))) (tq : Nat) (htq : τ tq = 13) (k_u0_1 : atp f u0 (fd 1 (.ref tq))) (rt : Nat → Int32) (hRtq : atp f tq (eqc (.inl (G 1, 200, .inl rt)))) (hr0 : u1.toInt < ln.toInt) : mI l yX7_partEnd cX7_partEnd 3 (.int) rm_s_X7_partEndX D G b0 f [.ref u0, .int u1] (fun r f1 => iv r 1 200 ∧ TI G 9 τ f1 ∧ Fr [] τ f f1 ∧ (r.toInt = (te (tb rt) ln.toInt.toNat u1.toInt.toNat : Nat)) ∧ (u1.toInt < r.toInt ∧ r.toInt ≤ ln.toInt)) := by
  refine met2 (own := RX7) (by decide) rfl (Nat.le_of_ble_eq_true rfl) ?_
  intro p e s m args below meth c ls Q hQ C hr hini hl h
  have hl : lv_has ls 3 [(0, .ref u0), (1, .int u1)] := hl
  obtain ⟨hx, hb, hml, hown, hts, hE0, hlk⟩ := id C
  have o := Fr.rf [] τ f
  have L12 : ∀ (n12 : Nat) (ls : Array Slot) (f_12 : hM) (H : Heap) (locs : List Loc) (v12_2 : Int32), 200 - v12_2.toInt < (n12 : Int) → lv_has ls 3 [(0, .ref u0), (2, .int v12_2)] → hw D b0 s.heap f_12 H locs → TI G 9 τ f_12 → Fr [] τ f f_12 → iv v12_2 1 200 → atp f_12 u0 (fd 0 (.int ln)) → atp f_12 u0 (fd 1 (.ref tq)) → atp f_12 tq (eqc (.inl (G 1, 200, .inl rt))) → 97 ≤ tb rt u1.toInt.toNat ∧ tb rt u1.toInt.toNat ≤ 122 → u1.toInt < v12_2.toInt ∧ v12_2.toInt ≤ ln.toInt → (rn 97 122 (tb rt) ln.toInt.toNat (Int.toNat (v12_2.toInt)) = rn 97 122 (tb rt) ln.toInt.toNat (u1.toInt.toNat + 1)) → W p l e rm_s_X7_partEndX s m args below meth c H locs 0 0 Q (F0 m 12 ls []) := by
    intro n12
    induction n12 with
    | zero => intro ls f_12 H locs v12_2 hm12 hl h t_12 o_12 iv12_2 k12_u0_0 k12_u0_1 k12_tq_R hv12_0 hv12_1 hv12_2; exact absurd hm12 (by omega)
    | succ n12 ih12 =>
      intro ls f_12 H locs v12_2 hm12 hl h t_12 o_12 iv12_2 k12_u0_0 k12_u0_1 k12_tq_R hv12_0 hv12_1 hv12_2
      refine lv_iload_n hx hb dX7_partEnd_12 rfl (lv_at hl 1 rfl) ?_
      refine lv_aload_n hx hb dX7_partEnd_13 rfl (lv_at hl 0 rfl) ?_
      refine t_getfd C h t_12 hu0 (by decide) wf_11 (v := .int ln) k12_u0_0 fl_X7_18 dX7_partEnd_14 ?_
      refine lv_icmp_ge (tgt := 64) hx hb dX7_partEnd_17 (by decide) (fun c1 => ?_) (fun c1 => ?_)
      · have c2 : ln.toInt ≤ v12_2.toInt := Int32.le_iff_toInt_le.mp c1
        refine lv_iload_n hx hb dX7_partEnd_64 rfl (lv_at hl 1 rfl) ?_
        exact u_iret C h hr hQ (⟨iv12_2, t_12, o_12, (by unfold te; rw [if_pos (by omega), ← hv12_2, rn_e (by omega)]; omega), (by omega)⟩) (Nat.le_of_ble_eq_true rfl) (Nat.le_of_ble_eq_true rfl) dX7_partEnd_65
      · have c3 : v12_2.toInt < ln.toInt := Int32.lt_iff_toInt_lt.mp (iv_nle c1)
        have i4 : iv v12_2 1 199 := iv_Ll c3 iv12_2 hln (by decide)
        have i5 : iv ln 2 200 := iv_Lr c3 iv12_2 hln (by decide)
        refine lv_aload_n hx hb dX7_partEnd_20 rfl (lv_at hl 0 rfl) ?_
        refine lv_iload_n hx hb dX7_partEnd_21 rfl (lv_at hl 1 rfl) ?_
        obtain ⟨_, r6⟩ := t_rec t_12 hu0 (by decide) wf_11
        refine k_i (r_V C h hl (As := [.int v12_2]) (rest := []) (s_X7_isLetterX l D G b0 τ f_12 t_12 u0 hu0 v12_2 (iv_w i4 (by decide)) tq htq k12_u0_1 rt k12_tq_R) r6 (Cn := RX7) (T := TX7) (N := 7) rfl rfl mk_X7_isLetter w_443 w_445 w_1 w_446 ⟨Nat.le_of_ble_eq_true rfl, Nat.le_of_ble_eq_true rfl⟩ rfl (Nat.le_of_ble_eq_true rfl) ⟨Nat.le_of_ble_eq_true rfl, Nat.le_of_ble_eq_true rfl⟩ rfl dX7_partEnd_22) h (fun r7 f8 H locs p9 h => ?_)
        obtain ⟨ir7, tf8, ogf8, cnr7, czr7⟩ := p9
        have egf8 := Fr.nil2 ogf8
        subst egf8
        refine lv_if_eq (tgt := 64) hx hb dX7_partEnd_25 (by decide) (fun c10 => ?_) (fun c10 => ?_)
        · have c11 : r7.toInt = 0 := congrArg Int32.toInt c10
          have i12 : iv r7 0 0 := iv_Q c11 ir7 (iv_k (x := 0) (k := 0) rfl) (by decide)
          have i13 := czr7 c11
          refine lv_iload_n hx hb dX7_partEnd_64 rfl (lv_at hl 1 rfl) ?_
          exact u_iret C h hr hQ (⟨(iv_w i4 (by decide)), t_12, o_12, (by unfold te; rw [if_pos (by omega), ← hv12_2, rn_e (by omega)]; omega), (by omega)⟩) (Nat.le_of_ble_eq_true rfl) (Nat.le_of_ble_eq_true rfl) dX7_partEnd_65
        · have c14 : r7.toInt ≠ 0 := fun z_ => c10 (Int32.toInt_inj.mp z_)
          have i15 : iv r7 1 1 := iv_Nl c14 ir7 (by decide)
          have i16 := cnr7 c14
          refine i_inc hx hb dX7_partEnd_28 hl (k := 1) rfl i4 rfl (lo := 2) (hi := 200) (by decide) (by decide) (lv' := fun v => [(2, .int v), (0, .ref u0)]) (fun _ => rfl) (fun z17 ls ez17 mz17 iz17 hl => ?_)
          refine lv_goto (tgt := 12) hx hb dX7_partEnd_31 (by decide) ?_
          exact ih12 ls f_12 H locs z17 (show 200 - z17.toInt < _ by omega) (lv_cons hl 1 rfl (lv_cons hl 0 rfl (lv_nil hl))) h t_12 o_12 (iv_w iz17 (by decide)) k12_u0_0 k12_u0_1 k12_tq_R (show 97 ≤ tb rt u1.toInt.toNat ∧ tb rt u1.toInt.toNat ≤ 122 by omega) (show u1.toInt < z17.toInt ∧ z17.toInt ≤ ln.toInt by omega) (show rn 97 122 (tb rt) ln.toInt.toNat (Int.toNat (z17.toInt)) = rn 97 122 (tb rt) ln.toInt.toNat (u1.toInt.toNat + 1) from (by rw [rn_s (i := v12_2.toInt.toNat) (by omega) (by omega)]; exact hv12_2))
  have L42 : ∀ (n42 : Nat) (ls : Array Slot) (f_42 : hM) (H : Heap) (locs : List Loc) (v42_2 : Int32), 200 - v42_2.toInt < (n42 : Int) → lv_has ls 3 [(0, .ref u0), (2, .int v42_2)] → hw D b0 s.heap f_42 H locs → TI G 9 τ f_42 → Fr [] τ f f_42 → iv v42_2 1 200 → atp f_42 u0 (fd 0 (.int ln)) → atp f_42 u0 (fd 1 (.ref tq)) → atp f_42 tq (eqc (.inl (G 1, 200, .inl rt))) → (48 ≤ tb rt u1.toInt.toNat ∧ tb rt u1.toInt.toNat ≤ 57) → u1.toInt < v42_2.toInt ∧ v42_2.toInt ≤ ln.toInt → (rn 48 57 (tb rt) ln.toInt.toNat (Int.toNat (v42_2.toInt)) = rn 48 57 (tb rt) ln.toInt.toNat (u1.toInt.toNat + 1)) → W p l e rm_s_X7_partEndX s m args below meth c H locs 0 0 Q (F0 m 42 ls []) := by
    intro n42
    induction n42 with
    | zero => intro ls f_42 H locs v42_2 hm42 hl h t_42 o_42 iv42_2 k42_u0_0 k42_u0_1 k42_tq_R hv42_0 hv42_1 hv42_2; exact absurd hm42 (by omega)
    | succ n42 ih42 =>
      intro ls f_42 H locs v42_2 hm42 hl h t_42 o_42 iv42_2 k42_u0_0 k42_u0_1 k42_tq_R hv42_0 hv42_1 hv42_2
      refine lv_iload_n hx hb dX7_partEnd_42 rfl (lv_at hl 1 rfl) ?_
      refine lv_aload_n hx hb dX7_partEnd_43 rfl (lv_at hl 0 rfl) ?_
      refine t_getfd C h t_42 hu0 (by decide) wf_11 (v := .int ln) k42_u0_0 fl_X7_18 dX7_partEnd_44 ?_
      refine lv_icmp_ge (tgt := 64) hx hb dX7_partEnd_47 (by decide) (fun c18 => ?_) (fun c18 => ?_)
      · have c19 : ln.toInt ≤ v42_2.toInt := Int32.le_iff_toInt_le.mp c18
        refine lv_iload_n hx hb dX7_partEnd_64 rfl (lv_at hl 1 rfl) ?_
        exact u_iret C h hr hQ (⟨iv42_2, t_42, o_42, (by unfold te; rw [if_neg (by omega), if_pos (by omega), ← hv42_2, rn_e (by omega)]; omega), (by omega)⟩) (Nat.le_of_ble_eq_true rfl) (Nat.le_of_ble_eq_true rfl) dX7_partEnd_65
      · have c20 : v42_2.toInt < ln.toInt := Int32.lt_iff_toInt_lt.mp (iv_nle c18)
        have i21 : iv v42_2 1 199 := iv_Ll c20 iv42_2 hln (by decide)
        have i22 : iv ln 2 200 := iv_Lr c20 iv42_2 hln (by decide)
        refine lv_aload_n hx hb dX7_partEnd_50 rfl (lv_at hl 0 rfl) ?_
        refine lv_iload_n hx hb dX7_partEnd_51 rfl (lv_at hl 1 rfl) ?_
        obtain ⟨_, r23⟩ := t_rec t_42 hu0 (by decide) wf_11
        refine k_i (r_V C h hl (As := [.int v42_2]) (rest := []) (s_X7_isDigitX l D G b0 τ f_42 t_42 u0 hu0 v42_2 (iv_w i21 (by decide)) tq htq k42_u0_1 rt k42_tq_R) r23 (Cn := RX7) (T := TX7) (N := 7) rfl rfl mk_X7_isDigit w_448 w_450 w_2 w_451 ⟨Nat.le_of_ble_eq_true rfl, Nat.le_of_ble_eq_true rfl⟩ rfl (Nat.le_of_ble_eq_true rfl) ⟨Nat.le_of_ble_eq_true rfl, Nat.le_of_ble_eq_true rfl⟩ rfl dX7_partEnd_52) h (fun r24 f25 H locs p26 h => ?_)
        obtain ⟨ir24, tf25, ogf25, cnr24, czr24⟩ := p26
        have egf25 := Fr.nil2 ogf25
        subst egf25
        refine lv_if_eq (tgt := 64) hx hb dX7_partEnd_55 (by decide) (fun c27 => ?_) (fun c27 => ?_)
        · have c28 : r24.toInt = 0 := congrArg Int32.toInt c27
          have i29 : iv r24 0 0 := iv_Q c28 ir24 (iv_k (x := 0) (k := 0) rfl) (by decide)
          have i30 := czr24 c28
          refine lv_iload_n hx hb dX7_partEnd_64 rfl (lv_at hl 1 rfl) ?_
          exact u_iret C h hr hQ (⟨(iv_w i21 (by decide)), t_42, o_42, (by unfold te; rw [if_neg (by omega), if_pos (by omega), ← hv42_2, rn_e (by omega)]; omega), (by omega)⟩) (Nat.le_of_ble_eq_true rfl) (Nat.le_of_ble_eq_true rfl) dX7_partEnd_65
        · have c31 : r24.toInt ≠ 0 := fun z_ => c27 (Int32.toInt_inj.mp z_)
          have i32 : iv r24 1 1 := iv_Nl c31 ir24 (by decide)
          have i33 := cnr24 c31
          refine i_inc hx hb dX7_partEnd_58 hl (k := 1) rfl i21 rfl (lo := 2) (hi := 200) (by decide) (by decide) (lv' := fun v => [(2, .int v), (0, .ref u0)]) (fun _ => rfl) (fun z34 ls ez34 mz34 iz34 hl => ?_)
          refine lv_goto (tgt := 42) hx hb dX7_partEnd_61 (by decide) ?_
          exact ih42 ls f_42 H locs z34 (show 200 - z34.toInt < _ by omega) (lv_cons hl 1 rfl (lv_cons hl 0 rfl (lv_nil hl))) h t_42 o_42 (iv_w iz34 (by decide)) k42_u0_0 k42_u0_1 k42_tq_R (show (48 ≤ tb rt u1.toInt.toNat ∧ tb rt u1.toInt.toNat ≤ 57) by omega) (show u1.toInt < z34.toInt ∧ z34.toInt ≤ ln.toInt by omega) (show rn 48 57 (tb rt) ln.toInt.toNat (Int.toNat (z34.toInt)) = rn 48 57 (tb rt) ln.toInt.toNat (u1.toInt.toNat + 1) from (by rw [rn_s (i := v42_2.toInt.toNat) (by omega) (by omega)]; exact hv42_2))
  refine lv_iload_n hx hb dX7_partEnd_0 rfl (lv_at hl 1 rfl) ?_
  refine lv_iconst (v := 1) hx hb dX7_partEnd_1 (by decide) ?_
  refine i_addk hx hb dX7_partEnd_2 hu1 (k := 1) rfl (lo := 1) (hi := 200) (by decide) (fun z35 ez35 mz35 iz35 => ?_)
  refine lv_istore_n (lv' := [(2, .int z35), (0, .ref u0), (1, .int u1)]) hx hb dX7_partEnd_3 rfl hl (by decide) rfl (fun ls hl => ?_)
  refine lv_aload_n hx hb dX7_partEnd_4 rfl (lv_at hl 1 rfl) ?_
  refine lv_iload_n hx hb dX7_partEnd_5 rfl (lv_at hl 2 rfl) ?_
  obtain ⟨_, r36⟩ := t_rec t hu0 (by decide) wf_11
  refine k_i (r_V C h hl (As := [.int u1]) (rest := []) (s_X7_isLetterX l D G b0 τ f t u0 hu0 u1 hu1 tq htq k_u0_1 rt hRtq) r36 (Cn := RX7) (T := TX7) (N := 7) rfl rfl mk_X7_isLetter w_443 w_445 w_1 w_446 ⟨Nat.le_of_ble_eq_true rfl, Nat.le_of_ble_eq_true rfl⟩ rfl (Nat.le_of_ble_eq_true rfl) ⟨Nat.le_of_ble_eq_true rfl, Nat.le_of_ble_eq_true rfl⟩ rfl dX7_partEnd_6) h (fun r37 f38 H locs p39 h => ?_)
  obtain ⟨ir37, tf38, ogf38, cnr37, czr37⟩ := p39
  have egf38 := Fr.nil2 ogf38
  subst egf38
  refine lv_if_eq (tgt := 34) hx hb dX7_partEnd_9 (by decide) (fun c40 => ?_) (fun c40 => ?_)
  · have c41 : r37.toInt = 0 := congrArg Int32.toInt c40
    have i42 : iv r37 0 0 := iv_Q c41 ir37 (iv_k (x := 0) (k := 0) rfl) (by decide)
    have i43 := czr37 c41
    refine lv_aload_n hx hb dX7_partEnd_34 rfl (lv_at hl 1 rfl) ?_
    refine lv_iload_n hx hb dX7_partEnd_35 rfl (lv_at hl 2 rfl) ?_
    obtain ⟨_, r47⟩ := t_rec t hu0 (by decide) wf_11
    refine k_i (r_V C h hl (As := [.int u1]) (rest := []) (s_X7_isDigitX l D G b0 τ f t u0 hu0 u1 hu1 tq htq k_u0_1 rt hRtq) r47 (Cn := RX7) (T := TX7) (N := 7) rfl rfl mk_X7_isDigit w_448 w_450 w_2 w_451 ⟨Nat.le_of_ble_eq_true rfl, Nat.le_of_ble_eq_true rfl⟩ rfl (Nat.le_of_ble_eq_true rfl) ⟨Nat.le_of_ble_eq_true rfl, Nat.le_of_ble_eq_true rfl⟩ rfl dX7_partEnd_36) h (fun r48 f49 H locs p50 h => ?_)
    obtain ⟨ir48, tf49, ogf49, cnr48, czr48⟩ := p50
    have egf49 := Fr.nil2 ogf49
    subst egf49
    refine lv_if_eq (tgt := 64) hx hb dX7_partEnd_39 (by decide) (fun c51 => ?_) (fun c51 => ?_)
    · have c52 : r48.toInt = 0 := congrArg Int32.toInt c51
      have i53 : iv r48 0 0 := iv_Q c52 ir48 (iv_k (x := 0) (k := 0) rfl) (by decide)
      have i54 := czr48 c52
      refine lv_iload_n hx hb dX7_partEnd_64 rfl (lv_at hl 0 rfl) ?_
      exact u_iret C h hr hQ (⟨iz35, t, o, (by unfold te; rw [if_neg (by omega), if_neg (by omega)]; omega), (by omega)⟩) (Nat.le_of_ble_eq_true rfl) (Nat.le_of_ble_eq_true rfl) dX7_partEnd_65
    · have c55 : r48.toInt ≠ 0 := fun z_ => c51 (Int32.toInt_inj.mp z_)
      have i56 : iv r48 1 1 := iv_Nl c55 ir48 (by decide)
      have i57 := cnr48 c55
      exact L42 200 ls f H locs z35 (show 200 - z35.toInt < _ by omega) (lv_cons hl 1 rfl (lv_cons hl 0 rfl (lv_nil hl))) h t o iz35 k_u0_0 k_u0_1 hRtq (show (48 ≤ tb rt u1.toInt.toNat ∧ tb rt u1.toInt.toNat ≤ 57) by omega) (show u1.toInt < z35.toInt ∧ z35.toInt ≤ ln.toInt by omega) (show rn 48 57 (tb rt) ln.toInt.toNat (Int.toNat (z35.toInt)) = rn 48 57 (tb rt) ln.toInt.toNat (u1.toInt.toNat + 1) from (congrArg (rn 48 57 (tb rt) ln.toInt.toNat) (by omega)))
  · have c44 : r37.toInt ≠ 0 := fun z_ => c40 (Int32.toInt_inj.mp z_)
    have i45 : iv r37 1 1 := iv_Nl c44 ir37 (by decide)
    have i46 := cnr37 c44
    exact L12 200 ls f H locs z35 (show 200 - z35.toInt < _ by omega) (lv_cons hl 1 rfl (lv_cons hl 0 rfl (lv_nil hl))) h t o iz35 k_u0_0 k_u0_1 hRtq (show 97 ≤ tb rt u1.toInt.toNat ∧ tb rt u1.toInt.toNat ≤ 122 by omega) (show u1.toInt < z35.toInt ∧ z35.toInt ≤ ln.toInt by omega) (show rn 97 122 (tb rt) ln.toInt.toNat (Int.toNat (z35.toInt)) = rn 97 122 (tb rt) ln.toInt.toNat (u1.toInt.toNat + 1) from (congrArg (rn 97 122 (tb rt) ln.toInt.toNat) (by omega)))
abbrev rm_s_X7_takesNumberX : Room := { frames := 0, cells := 0, slots := 0, locals := 0 }
set_option maxRecDepth 100000 in
set_option maxHeartbeats 4000000 in
theorem s_X7_takesNumberX (l : Launch) (D : va_G) (G : Nat → Nat) (b0 : Nat) (τ : Nat → Nat) (f : hM) (t : TI G 9 τ f) (u0 : Nat) (hu0 : τ u0 = 11) (u1 : Int32) (hu1 : iv u1 0 9) (wq : Nat) (hwq : τ wq = 14) (k_u0_2 : atp f u0 (fd 2 (.ref wq))) (sx : Int32) (hsx : iv sx 0 9) (k_u0_3 : atp f u0 (fd 3 (.int sx))) (sy : Int32) (hsy : iv sy 0 9) (k_u0_4 : atp f u0 (fd 4 (.int sy))) (bh : Int32) (hbh : iv bh 0 6) (k_u0_5 : atp f u0 (fd 5 (.int bh))) (la : Int32) (hla : iv la 0 7) (k_u0_6 : atp f u0 (fd 6 (.int la))) (ww : Nat → Int32) (hRwq : atp f wq (eqc (.inl (G 1, 8, .inl ww)))) : mI l yX7_takesNumber cX7_takesNumber 2 (.boolean) rm_s_X7_takesNumberX D G b0 f [.ref u0, .int u1] (fun r f1 => iv r 0 1 ∧ TI G 9 τ f1 ∧ Fr [11, 14, 11004, 11005, 11006] τ f f1 ∧ (r.toInt ≠ 0 → ((bh.toInt = 1 ∧ u1.toInt ≠ 0) ∨ bh.toInt = 4 ∨ bh.toInt = 5)) ∧ (r.toInt = 0 → ¬ ((bh.toInt = 1 ∧ u1.toInt ≠ 0) ∨ bh.toInt = 4 ∨ bh.toInt = 5)) ∧ (∃ sx1 : Int32, atp f1 u0 (fd 3 (.int sx1)) ∧ iv sx1 0 9 ∧ (bh.toInt = 4 → sx1.toInt = u1.toInt) ∧ (bh.toInt ≠ 4 → sx1.toInt = sx.toInt)) ∧ (∃ sy1 : Int32, atp f1 u0 (fd 4 (.int sy1)) ∧ iv sy1 0 9 ∧ (bh.toInt = 5 → sy1.toInt = u1.toInt) ∧ (bh.toInt ≠ 5 → sy1.toInt = sy.toInt)) ∧ (∃ bh1 : Int32, atp f1 u0 (fd 5 (.int bh1)) ∧ iv bh1 0 6 ∧ ((bh.toInt = 1 ∧ u1.toInt ≠ 0) → bh1.toInt = 2) ∧ (bh.toInt = 4 → bh1.toInt = 5) ∧ (bh.toInt = 5 → bh1.toInt = 6) ∧ (¬ ((bh.toInt = 1 ∧ u1.toInt ≠ 0) ∨ bh.toInt = 4 ∨ bh.toInt = 5) → bh1.toInt = bh.toInt)) ∧ (∃ ww1 : Nat → Int32, atp f1 wq (eqc (.inl (G 1, 8, .inl ww1))) ∧ (∀ k : Nat, ww1 k = if (bh.toInt = 1 ∧ u1.toInt ≠ 0) ∧ k = la.toInt.toNat then u1 else ww k)) ∧ FX [u0, wq] f f1) := by
  refine met2 (own := RX7) (by decide) rfl (Nat.le_of_ble_eq_true rfl) ?_
  intro p e s m args below meth c ls Q hQ C hr hini hl h
  have hl : lv_has ls 2 [(0, .ref u0), (1, .int u1)] := hl
  obtain ⟨hx, hb, hml, hown, hts, hE0, hlk⟩ := id C
  have o := Fr.rf [11, 14, 11004, 11005, 11006] τ f
  have hfx := FX.rf [u0, wq] f
  refine lv_aload_n hx hb dX7_takesNumber_0 rfl (lv_at hl 0 rfl) ?_
  refine t_getfd C h t hu0 (by decide) wf_11 (v := .int bh) k_u0_5 fl_X7_39 dX7_takesNumber_1 ?_
  refine lv_iconst (v := 1) hx hb dX7_takesNumber_4 (by decide) ?_
  refine lv_icmp_ne (tgt := 29) hx hb dX7_takesNumber_5 (by decide) (fun c1 => ?_) (fun c1 => ?_)
  · have c2 : bh.toInt ≠ 1 := fun z_ => c1 (Int32.toInt_inj.mp z_)
    refine lv_aload_n hx hb dX7_takesNumber_29 rfl (lv_at hl 0 rfl) ?_
    refine t_getfd C h t hu0 (by decide) wf_11 (v := .int bh) k_u0_5 fl_X7_39 dX7_takesNumber_30 ?_
    refine lv_iconst (v := 4) hx hb dX7_takesNumber_33 (by decide) ?_
    refine lv_icmp_ne (tgt := 49) hx hb dX7_takesNumber_34 (by decide) (fun c5 => ?_) (fun c5 => ?_)
    · have c6 : bh.toInt ≠ 4 := fun z_ => c5 (Int32.toInt_inj.mp z_)
      refine lv_aload_n hx hb dX7_takesNumber_49 rfl (lv_at hl 0 rfl) ?_
      refine t_getfd C h t hu0 (by decide) wf_11 (v := .int bh) k_u0_5 fl_X7_39 dX7_takesNumber_50 ?_
      refine lv_iconst (v := 5) hx hb dX7_takesNumber_53 (by decide) ?_
      refine lv_icmp_ne (tgt := 70) hx hb dX7_takesNumber_54 (by decide) (fun c9 => ?_) (fun c9 => ?_)
      · have c10 : bh.toInt ≠ 5 := fun z_ => c9 (Int32.toInt_inj.mp z_)
        refine lv_iconst (v := 0) hx hb dX7_takesNumber_70 (by decide) ?_
        exact u_zret C h hr hQ ⟨by decide, by decide⟩ (⟨⟨by decide, by decide⟩, t, o, (fun h_ => absurd h_ (by decide)), (fun _ => (by omega)), ⟨sx, k_u0_3, hsx, (by omega)⟩, ⟨sy, k_u0_4, hsy, (by omega)⟩, ⟨bh, k_u0_5, hbh, (by have n2_ : (2 : Int32).toInt = 2 := rfl; have n5_ : (5 : Int32).toInt = 5 := rfl; have n6_ : (6 : Int32).toInt = 6 := rfl; omega)⟩, ⟨ww, hRwq, (fun k => by rw [if_neg (by omega)])⟩, hfx⟩) (Nat.le_of_ble_eq_true rfl) (Nat.le_of_ble_eq_true rfl) dX7_takesNumber_71
      · have c11 : bh.toInt = 5 := congrArg Int32.toInt c9
        have i12 : iv bh 5 5 := iv_Q c11 hbh (iv_k (x := 5) (k := 5) rfl) (by decide)
        refine lv_aload_n hx hb dX7_takesNumber_57 rfl (lv_at hl 0 rfl) ?_
        refine lv_iload_n hx hb dX7_takesNumber_58 rfl (lv_at hl 1 rfl) ?_
        refine t_put C h t o hu0 (by decide) (by decide) (by decide) wf_11 fw_11 (k := 4) rfl flw_X7_27 (Or.inr ⟨_, _, _, rfl, rfl⟩) (v := .int u1) rfl rfl ⟨_, rfl, hu1⟩ dX7_takesNumber_59 (fun f13 H locs h tf13 of13 hq ha_ hn_ hk_ => ?_)
        have k14 := hk_ 2 _ (by decide) k_u0_2
        have k15 := hk_ 3 _ (by decide) k_u0_3
        have k17 := hk_ 5 _ (by decide) k_u0_5
        have k18 := hk_ 6 _ (by decide) k_u0_6
        have k19 := atp.tg hRwq hq hwq (by decide)
        have k20 := FX.up hfx hn_ (by simp)
        have k21 := ha_
        refine lv_aload_n hx hb dX7_takesNumber_62 rfl (lv_at hl 0 rfl) ?_
        refine lv_bipush (v := 6) hx hb dX7_takesNumber_63 (by decide) ?_
        refine t_put C h tf13 of13 hu0 (by decide) (by decide) (by decide) wf_11 fw_11 (k := 5) rfl flw_X7_39 (Or.inr ⟨_, _, _, rfl, rfl⟩) (v := .int 6) rfl rfl ⟨_, rfl, ⟨by decide, by decide⟩⟩ dX7_takesNumber_65 (fun f22 H locs h tf22 of22 hq ha_ hn_ hk_ => ?_)
        have k23 := hk_ 2 _ (by decide) k14
        have k24 := hk_ 3 _ (by decide) k15
        have k26 := hk_ 6 _ (by decide) k18
        have k27 := atp.tg k19 hq hwq (by decide)
        have k28 := FX.up k20 hn_ (by simp)
        have k29 := hk_ 4 _ (by decide) k21
        have k30 := ha_
        refine lv_iconst (v := 1) hx hb dX7_takesNumber_68 (by decide) ?_
        exact u_zret C h hr hQ ⟨by decide, by decide⟩ (⟨⟨by decide, by decide⟩, tf22, of22, (fun _ => (by omega)), (fun h_ => absurd h_ (by decide)), ⟨sx, k24, hsx, (by omega)⟩, ⟨u1, k29, hu1, (by omega)⟩, ⟨6, k30, ⟨by decide, by decide⟩, (by have n2_ : (2 : Int32).toInt = 2 := rfl; have n5_ : (5 : Int32).toInt = 5 := rfl; have n6_ : (6 : Int32).toInt = 6 := rfl; omega)⟩, ⟨ww, k27, (fun k => by rw [if_neg (by omega)])⟩, k28⟩) (Nat.le_of_ble_eq_true rfl) (Nat.le_of_ble_eq_true rfl) dX7_takesNumber_69
    · have c7 : bh.toInt = 4 := congrArg Int32.toInt c5
      have i8 : iv bh 4 4 := iv_Q c7 hbh (iv_k (x := 4) (k := 4) rfl) (by decide)
      refine lv_aload_n hx hb dX7_takesNumber_37 rfl (lv_at hl 0 rfl) ?_
      refine lv_iload_n hx hb dX7_takesNumber_38 rfl (lv_at hl 1 rfl) ?_
      refine t_put C h t o hu0 (by decide) (by decide) (by decide) wf_11 fw_11 (k := 3) rfl flw_X7_24 (Or.inr ⟨_, _, _, rfl, rfl⟩) (v := .int u1) rfl rfl ⟨_, rfl, hu1⟩ dX7_takesNumber_39 (fun f31 H locs h tf31 of31 hq ha_ hn_ hk_ => ?_)
      have k32 := hk_ 2 _ (by decide) k_u0_2
      have k34 := hk_ 4 _ (by decide) k_u0_4
      have k35 := hk_ 5 _ (by decide) k_u0_5
      have k36 := hk_ 6 _ (by decide) k_u0_6
      have k37 := atp.tg hRwq hq hwq (by decide)
      have k38 := FX.up hfx hn_ (by simp)
      have k39 := ha_
      refine lv_aload_n hx hb dX7_takesNumber_42 rfl (lv_at hl 0 rfl) ?_
      refine lv_iconst (v := 5) hx hb dX7_takesNumber_43 (by decide) ?_
      refine t_put C h tf31 of31 hu0 (by decide) (by decide) (by decide) wf_11 fw_11 (k := 5) rfl flw_X7_39 (Or.inr ⟨_, _, _, rfl, rfl⟩) (v := .int 5) rfl rfl ⟨_, rfl, ⟨by decide, by decide⟩⟩ dX7_takesNumber_44 (fun f40 H locs h tf40 of40 hq ha_ hn_ hk_ => ?_)
      have k41 := hk_ 2 _ (by decide) k32
      have k42 := hk_ 4 _ (by decide) k34
      have k44 := hk_ 6 _ (by decide) k36
      have k45 := atp.tg k37 hq hwq (by decide)
      have k46 := FX.up k38 hn_ (by simp)
      have k47 := hk_ 3 _ (by decide) k39
      have k48 := ha_
      refine lv_iconst (v := 1) hx hb dX7_takesNumber_47 (by decide) ?_
      exact u_zret C h hr hQ ⟨by decide, by decide⟩ (⟨⟨by decide, by decide⟩, tf40, of40, (fun _ => (by omega)), (fun h_ => absurd h_ (by decide)), ⟨u1, k47, hu1, (by omega)⟩, ⟨sy, k42, hsy, (by omega)⟩, ⟨5, k48, ⟨by decide, by decide⟩, (by have n2_ : (2 : Int32).toInt = 2 := rfl; have n5_ : (5 : Int32).toInt = 5 := rfl; have n6_ : (6 : Int32).toInt = 6 := rfl; omega)⟩, ⟨ww, k45, (fun k => by rw [if_neg (by omega)])⟩, k46⟩) (Nat.le_of_ble_eq_true rfl) (Nat.le_of_ble_eq_true rfl) dX7_takesNumber_48
  · have c3 : bh.toInt = 1 := congrArg Int32.toInt c1
    have i4 : iv bh 1 1 := iv_Q c3 hbh (iv_k (x := 1) (k := 1) rfl) (by decide)
    refine lv_iload_n hx hb dX7_takesNumber_8 rfl (lv_at hl 1 rfl) ?_
    refine lv_if_eq (tgt := 29) hx hb dX7_takesNumber_9 (by decide) (fun c49 => ?_) (fun c49 => ?_)
    · have c50 : u1.toInt = 0 := congrArg Int32.toInt c49
      have i51 : iv u1 0 0 := iv_Q c50 hu1 (iv_k (x := 0) (k := 0) rfl) (by decide)
      refine lv_aload_n hx hb dX7_takesNumber_29 rfl (lv_at hl 0 rfl) ?_
      refine t_getfd C h t hu0 (by decide) wf_11 (v := .int bh) k_u0_5 fl_X7_39 dX7_takesNumber_30 ?_
      refine lv_iconst (v := 4) hx hb dX7_takesNumber_33 (by decide) ?_
      refine lv_icmp_ne (tgt := 49) hx hb dX7_takesNumber_34 (by decide) (fun c54 => ?_) (fun c54 => ?_)
      · have c55 : bh.toInt ≠ 4 := fun z_ => c54 (Int32.toInt_inj.mp z_)
        refine lv_aload_n hx hb dX7_takesNumber_49 rfl (lv_at hl 0 rfl) ?_
        refine t_getfd C h t hu0 (by decide) wf_11 (v := .int bh) k_u0_5 fl_X7_39 dX7_takesNumber_50 ?_
        refine lv_iconst (v := 5) hx hb dX7_takesNumber_53 (by decide) ?_
        refine lv_icmp_ne (tgt := 70) hx hb dX7_takesNumber_54 (by decide) (fun c57 => ?_) (fun c57 => ?_)
        · have c58 : bh.toInt ≠ 5 := fun z_ => c57 (Int32.toInt_inj.mp z_)
          refine lv_iconst (v := 0) hx hb dX7_takesNumber_70 (by decide) ?_
          exact u_zret C h hr hQ ⟨by decide, by decide⟩ (⟨⟨by decide, by decide⟩, t, o, (fun h_ => absurd h_ (by decide)), (fun _ => (by omega)), ⟨sx, k_u0_3, hsx, (by omega)⟩, ⟨sy, k_u0_4, hsy, (by omega)⟩, ⟨bh, k_u0_5, (iv_w i4 (by decide)), (by have n2_ : (2 : Int32).toInt = 2 := rfl; have n5_ : (5 : Int32).toInt = 5 := rfl; have n6_ : (6 : Int32).toInt = 6 := rfl; omega)⟩, ⟨ww, hRwq, (fun k => by rw [if_neg (by omega)])⟩, hfx⟩) (Nat.le_of_ble_eq_true rfl) (Nat.le_of_ble_eq_true rfl) dX7_takesNumber_71
        · have c59 : bh.toInt = 5 := congrArg Int32.toInt c57
          exact (iv_cq_ c59 i4 (iv_k (x := 5) (k := 5) rfl) (by decide)).elim
      · have c56 : bh.toInt = 4 := congrArg Int32.toInt c54
        exact (iv_cq_ c56 i4 (iv_k (x := 4) (k := 4) rfl) (by decide)).elim
    · have c52 : u1.toInt ≠ 0 := fun z_ => c49 (Int32.toInt_inj.mp z_)
      have i53 : iv u1 1 9 := iv_Nl c52 hu1 (by decide)
      refine lv_aload_n hx hb dX7_takesNumber_12 rfl (lv_at hl 0 rfl) ?_
      refine t_getfd C h t hu0 (by decide) wf_11 (v := .ref wq) k_u0_2 fl_X7_15 dX7_takesNumber_13 ?_
      refine lv_aload_n hx hb dX7_takesNumber_16 rfl (lv_at hl 0 rfl) ?_
      refine t_getfd C h t hu0 (by decide) wf_11 (v := .int la) k_u0_6 fl_X7_42 dX7_takesNumber_17 ?_
      refine lv_iload_n hx hb dX7_takesNumber_20 rfl (lv_at hl 1 rfl) ?_
      refine e_iast C h t o hwq (by decide) (by decide) wf_14 fw_14 hRwq (iv_in hla (by decide)) (iv_w i53 (by decide)) dX7_takesNumber_21 (fun R62 f60 erR62 H locs h tf60 of60 hq hn_ k61 => ?_)
      have k63 := atp.tg k_u0_2 hq hu0 (by decide)
      have k64 := atp.tg k_u0_3 hq hu0 (by decide)
      have k65 := atp.tg k_u0_4 hq hu0 (by decide)
      have k66 := atp.tg k_u0_5 hq hu0 (by decide)
      have k67 := atp.tg k_u0_6 hq hu0 (by decide)
      have k69 := FX.up hfx hn_ (by simp)
      refine lv_aload_n hx hb dX7_takesNumber_22 rfl (lv_at hl 0 rfl) ?_
      refine lv_iconst (v := 2) hx hb dX7_takesNumber_23 (by decide) ?_
      refine t_put C h tf60 of60 hu0 (by decide) (by decide) (by decide) wf_11 fw_11 (k := 5) rfl flw_X7_39 (Or.inr ⟨_, _, _, rfl, rfl⟩) (v := .int 2) rfl rfl ⟨_, rfl, ⟨by decide, by decide⟩⟩ dX7_takesNumber_24 (fun f70 H locs h tf70 of70 hq ha_ hn_ hk_ => ?_)
      have k71 := hk_ 2 _ (by decide) k63
      have k72 := hk_ 3 _ (by decide) k64
      have k73 := hk_ 4 _ (by decide) k65
      have k75 := hk_ 6 _ (by decide) k67
      have k76 := FX.up k69 hn_ (by simp)
      have k77 := atp.tg k61 hq hwq (by decide)
      have k78 := ha_
      refine lv_iconst (v := 1) hx hb dX7_takesNumber_27 (by decide) ?_
      exact u_zret C h hr hQ ⟨by decide, by decide⟩ (⟨⟨by decide, by decide⟩, tf70, of70, (fun _ => (by omega)), (fun h_ => absurd h_ (by decide)), ⟨sx, k72, hsx, (by omega)⟩, ⟨sy, k73, hsy, (by omega)⟩, ⟨2, k78, ⟨by decide, by decide⟩, (by have n2_ : (2 : Int32).toInt = 2 := rfl; have n5_ : (5 : Int32).toInt = 5 := rfl; have n6_ : (6 : Int32).toInt = 6 := rfl; omega)⟩, ⟨R62, k77, (fun k => by
          rw [erR62]; by_cases q_ : k = la.toInt.toNat
          · rw [upd_at q_, if_pos (by omega)]
          · rw [upd_off q_, if_neg (by omega)])⟩, k76⟩) (Nat.le_of_ble_eq_true rfl) (Nat.le_of_ble_eq_true rfl) dX7_takesNumber_28
