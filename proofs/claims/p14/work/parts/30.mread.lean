theorem dX11_here_0 : decode cX11_here 0 = .ok (.aload_n 0, 1) := by decide +kernel
theorem dX11_here_1 : decode cX11_here 1 = .ok (.getfield 90, 3) := by decide +kernel
theorem w_1436 : Cond.fieldLink "QuarterWalksModel" 90 "QuarterWalksModel" "at" "I" ∈ wAll := wI6 141 (by decide +kernel) (by decide +kernel)
theorem fl_X11_90 : fl RX11 90 12 3 := ⟨RX11, TX11, 32, rfl, inA_X11, by decide, w_1436⟩
theorem dX11_here_4 : decode cX11_here 4 = .ok (.aload_n 0, 1) := by decide +kernel
theorem dX11_here_5 : decode cX11_here 5 = .ok (.getfield 79, 3) := by decide +kernel
theorem dX11_here_8 : decode cX11_here 8 = .ok (.if_icmp .ge 19, 3) := by decide +kernel
theorem dX11_here_27 : decode cX11_here 27 = .ok (.iconst (-1), 1) := by decide +kernel
theorem dX11_here_11 : decode cX11_here 11 = .ok (.aload_n 0, 1) := by decide +kernel
theorem dX11_here_12 : decode cX11_here 12 = .ok (.getfield 9, 3) := by decide +kernel
theorem dX11_here_15 : decode cX11_here 15 = .ok (.aload_n 0, 1) := by decide +kernel
theorem dX11_here_16 : decode cX11_here 16 = .ok (.getfield 90, 3) := by decide +kernel
theorem dX11_here_19 : decode cX11_here 19 = .ok (.baload, 1) := by decide +kernel
theorem dX11_here_20 : decode cX11_here 20 = .ok (.sipush 255, 3) := by decide +kernel
theorem dX11_here_23 : decode cX11_here 23 = .ok (.iand, 1) := by decide +kernel
theorem dX11_here_24 : decode cX11_here 24 = .ok (.goto 4, 3) := by decide +kernel
theorem dX11_here_28 : decode cX11_here 28 = .ok (.ireturn, 1) := by decide +kernel
theorem dX11_look_0 : decode cX11_look 0 = .ok (.aload_n 0, 1) := by decide +kernel
theorem dX11_look_1 : decode cX11_look 1 = .ok (.invokevirtual 93, 3) := by decide +kernel
theorem w_1561 : Cond.methodLink "QuarterWalksModel" 93 yX11_here ∈ wAll := wI7 26 (by decide +kernel) (by decide +kernel)
theorem w_41 : Cond.selects yX11_here.cls yX11_here yX11_here ∈ wAll := wIn 41 (by decide +kernel) (by decide +kernel)
theorem mk_X11_here : mk yX11_here 0 := ⟨by decide +kernel, w_110⟩
theorem w_1563 : Cond.instanceMethod yX11_here ∈ wAll := wI7 28 (by decide +kernel) (by decide +kernel)
theorem w_1564 : Cond.code yX11_here cX11_here 1 (some .int) ∈ wAll := wI7 29 (by decide +kernel) (by decide +kernel)
theorem dX11_look_4 : decode cX11_look 4 = .ok (.bipush 32, 2) := by decide +kernel
theorem dX11_look_6 : decode cX11_look 6 = .ok (.if_icmp .ne 16, 3) := by decide +kernel
theorem dX11_look_22 : decode cX11_look 22 = .ok (.aload_n 0, 1) := by decide +kernel
theorem dX11_look_23 : decode cX11_look 23 = .ok (.invokevirtual 93, 3) := by decide +kernel
theorem dX11_look_9 : decode cX11_look 9 = .ok (.aload_n 0, 1) := by decide +kernel
theorem dX11_look_10 : decode cX11_look 10 = .ok (.dup, 1) := by decide +kernel
theorem dX11_look_11 : decode cX11_look 11 = .ok (.getfield 90, 3) := by decide +kernel
theorem dX11_look_14 : decode cX11_look 14 = .ok (.iconst 1, 1) := by decide +kernel
theorem dX11_look_15 : decode cX11_look 15 = .ok (.iadd, 1) := by decide +kernel
theorem dX11_look_16 : decode cX11_look 16 = .ok (.putfield 90, 3) := by decide +kernel
theorem flw_X11_90 : flw RX11 90 12 3 (.int) := ⟨RX11, TX11, 32, tyX11, rfl, inA_X11, by decide, w_1436, tyX11_ok, nmX11, by decide +kernel, Or.inl rfl⟩
theorem dX11_look_19 : decode cX11_look 19 = .ok (.goto (-19), 3) := by decide +kernel
theorem dX11_look_26 : decode cX11_look 26 = .ok (.ireturn, 1) := by decide +kernel
theorem dX11_fails_0 : decode cX11_fails 0 = .ok (.aload_n 0, 1) := by decide +kernel
theorem dX11_fails_1 : decode cX11_fails 1 = .ok (.getfield 97, 3) := by decide +kernel
theorem w_1437 : Cond.fieldLink "QuarterWalksModel" 97 "QuarterWalksModel" "fault" "I" ∈ wAll := wI6 142 (by decide +kernel) (by decide +kernel)
theorem fl_X11_97 : fl RX11 97 12 4 := ⟨RX11, TX11, 32, rfl, inA_X11, by decide, w_1437⟩
theorem dX11_fails_4 : decode cX11_fails 4 = .ok (.iconst (-1), 1) := by decide +kernel
theorem dX11_fails_5 : decode cX11_fails 5 = .ok (.if_icmp .ne 8, 3) := by decide +kernel
theorem dX11_fails_8 : decode cX11_fails 8 = .ok (.aload_n 0, 1) := by decide +kernel
theorem dX11_fails_9 : decode cX11_fails 9 = .ok (.iload_n 1, 1) := by decide +kernel
theorem dX11_fails_10 : decode cX11_fails 10 = .ok (.putfield 97, 3) := by decide +kernel
theorem flw_X11_97 : flw RX11 97 12 4 (.int) := ⟨RX11, TX11, 32, tyX11, rfl, inA_X11, by decide, w_1437, tyX11_ok, nmX11, by decide +kernel, Or.inl rfl⟩
theorem dX11_fails_13 : decode cX11_fails 13 = .ok (.return_, 1) := by decide +kernel
theorem dX11_isDigit_0 : decode cX11_isDigit 0 = .ok (.aload_n 0, 1) := by decide +kernel
theorem dX11_isDigit_1 : decode cX11_isDigit 1 = .ok (.invokevirtual 100, 3) := by decide +kernel
theorem w_1557 : Cond.methodLink "QuarterWalksModel" 100 yX11_look ∈ wAll := wI7 22 (by decide +kernel) (by decide +kernel)
theorem w_40 : Cond.selects yX11_look.cls yX11_look yX11_look ∈ wAll := wIn 40 (by decide +kernel) (by decide +kernel)
theorem mk_X11_look : mk yX11_look 0 := ⟨by decide +kernel, w_110⟩
theorem w_1559 : Cond.instanceMethod yX11_look ∈ wAll := wI7 24 (by decide +kernel) (by decide +kernel)
theorem w_1560 : Cond.code yX11_look cX11_look 1 (some .int) ∈ wAll := wI7 25 (by decide +kernel) (by decide +kernel)
theorem dX11_isDigit_4 : decode cX11_isDigit 4 = .ok (.istore_n 1, 1) := by decide +kernel
theorem dX11_isDigit_5 : decode cX11_isDigit 5 = .ok (.iload_n 1, 1) := by decide +kernel
theorem dX11_isDigit_6 : decode cX11_isDigit 6 = .ok (.bipush 48, 2) := by decide +kernel
theorem dX11_isDigit_8 : decode cX11_isDigit 8 = .ok (.if_icmp .lt 13, 3) := by decide +kernel
theorem dX11_isDigit_21 : decode cX11_isDigit 21 = .ok (.iconst 0, 1) := by decide +kernel
theorem dX11_isDigit_11 : decode cX11_isDigit 11 = .ok (.iload_n 1, 1) := by decide +kernel
theorem dX11_isDigit_12 : decode cX11_isDigit 12 = .ok (.bipush 57, 2) := by decide +kernel
theorem dX11_isDigit_14 : decode cX11_isDigit 14 = .ok (.if_icmp .gt 7, 3) := by decide +kernel
theorem dX11_isDigit_17 : decode cX11_isDigit 17 = .ok (.iconst 1, 1) := by decide +kernel
theorem dX11_isDigit_18 : decode cX11_isDigit 18 = .ok (.goto 4, 3) := by decide +kernel
theorem dX11_isDigit_22 : decode cX11_isDigit 22 = .ok (.ireturn, 1) := by decide +kernel
theorem dX11_digit_0 : decode cX11_digit 0 = .ok (.aload_n 0, 1) := by decide +kernel
theorem dX11_digit_1 : decode cX11_digit 1 = .ok (.invokevirtual 100, 3) := by decide +kernel
theorem dX11_digit_4 : decode cX11_digit 4 = .ok (.istore_n 2, 1) := by decide +kernel
theorem dX11_digit_5 : decode cX11_digit 5 = .ok (.aload_n 0, 1) := by decide +kernel
theorem dX11_digit_6 : decode cX11_digit 6 = .ok (.getfield 90, 3) := by decide +kernel
theorem dX11_digit_9 : decode cX11_digit 9 = .ok (.istore_n 3, 1) := by decide +kernel
theorem dX11_digit_10 : decode cX11_digit 10 = .ok (.aload_n 0, 1) := by decide +kernel
theorem dX11_digit_11 : decode cX11_digit 11 = .ok (.invokevirtual 93, 3) := by decide +kernel
theorem dX11_digit_14 : decode cX11_digit 14 = .ok (.bipush 48, 2) := by decide +kernel
theorem dX11_digit_16 : decode cX11_digit 16 = .ok (.if_icmp .lt 25, 3) := by decide +kernel
theorem dX11_digit_41 : decode cX11_digit 41 = .ok (.aload_n 0, 1) := by decide +kernel
theorem dX11_digit_42 : decode cX11_digit 42 = .ok (.getfield 90, 3) := by decide +kernel
theorem dX11_digit_45 : decode cX11_digit 45 = .ok (.iload_n 3, 1) := by decide +kernel
theorem dX11_digit_46 : decode cX11_digit 46 = .ok (.isub, 1) := by decide +kernel
theorem dX11_digit_47 : decode cX11_digit 47 = .ok (.iconst 1, 1) := by decide +kernel
theorem dX11_digit_48 : decode cX11_digit 48 = .ok (.if_icmp .ne 15, 3) := by decide +kernel
theorem dX11_digit_63 : decode cX11_digit 63 = .ok (.iconst (-1), 1) := by decide +kernel
theorem dX11_digit_64 : decode cX11_digit 64 = .ok (.istore 4, 2) := by decide +kernel
theorem dX11_digit_66 : decode cX11_digit 66 = .ok (.iload 4, 2) := by decide +kernel
theorem dX11_digit_68 : decode cX11_digit 68 = .ok (.iload_n 1, 1) := by decide +kernel
theorem dX11_digit_69 : decode cX11_digit 69 = .ok (.if_icmp .ge 8, 3) := by decide +kernel
theorem dX11_digit_72 : decode cX11_digit 72 = .ok (.aload_n 0, 1) := by decide +kernel
theorem dX11_digit_73 : decode cX11_digit 73 = .ok (.iload_n 3, 1) := by decide +kernel
theorem dX11_digit_74 : decode cX11_digit 74 = .ok (.invokevirtual 111, 3) := by decide +kernel
theorem w_1583 : Cond.methodLink "QuarterWalksModel" 111 yX11_fails ∈ wAll := wI7 48 (by decide +kernel) (by decide +kernel)
theorem w_44 : Cond.selects yX11_fails.cls yX11_fails yX11_fails ∈ wAll := wIn 44 (by decide +kernel) (by decide +kernel)
theorem mk_X11_fails : mk yX11_fails 1 := ⟨by decide +kernel, w_110⟩
theorem w_1585 : Cond.instanceMethod yX11_fails ∈ wAll := wI7 50 (by decide +kernel) (by decide +kernel)
theorem w_1586 : Cond.code yX11_fails cX11_fails 2 none ∈ wAll := wI7 51 (by decide +kernel) (by decide +kernel)
theorem dX11_digit_77 : decode cX11_digit 77 = .ok (.iload 4, 2) := by decide +kernel
theorem dX11_digit_51 : decode cX11_digit 51 = .ok (.aload_n 0, 1) := by decide +kernel
theorem dX11_digit_52 : decode cX11_digit 52 = .ok (.getfield 9, 3) := by decide +kernel
theorem dX11_digit_55 : decode cX11_digit 55 = .ok (.iload_n 3, 1) := by decide +kernel
theorem dX11_digit_56 : decode cX11_digit 56 = .ok (.baload, 1) := by decide +kernel
theorem dX11_digit_57 : decode cX11_digit 57 = .ok (.bipush 48, 2) := by decide +kernel
theorem dX11_digit_59 : decode cX11_digit 59 = .ok (.isub, 1) := by decide +kernel
theorem dX11_digit_60 : decode cX11_digit 60 = .ok (.goto 4, 3) := by decide +kernel
theorem dX11_digit_19 : decode cX11_digit 19 = .ok (.aload_n 0, 1) := by decide +kernel
theorem dX11_digit_20 : decode cX11_digit 20 = .ok (.invokevirtual 93, 3) := by decide +kernel
theorem dX11_digit_23 : decode cX11_digit 23 = .ok (.bipush 57, 2) := by decide +kernel
theorem dX11_digit_25 : decode cX11_digit 25 = .ok (.if_icmp .gt 16, 3) := by decide +kernel
theorem dX11_digit_28 : decode cX11_digit 28 = .ok (.aload_n 0, 1) := by decide +kernel
theorem dX11_digit_29 : decode cX11_digit 29 = .ok (.dup, 1) := by decide +kernel
theorem dX11_digit_30 : decode cX11_digit 30 = .ok (.getfield 90, 3) := by decide +kernel
theorem dX11_digit_33 : decode cX11_digit 33 = .ok (.iconst 1, 1) := by decide +kernel
theorem dX11_digit_34 : decode cX11_digit 34 = .ok (.iadd, 1) := by decide +kernel
theorem dX11_digit_35 : decode cX11_digit 35 = .ok (.putfield 90, 3) := by decide +kernel
theorem dX11_digit_38 : decode cX11_digit 38 = .ok (.goto (-28), 3) := by decide +kernel
theorem dX11_digit_79 : decode cX11_digit 79 = .ok (.ireturn, 1) := by decide +kernel
abbrev rm_s_X11_hereX : Room := { frames := 0, cells := 0, slots := 0, locals := 0 }
set_option maxRecDepth 100000 in
set_option maxHeartbeats 4000000 in
theorem s_X11_hereX (l : Launch) (D : va_G) (G : Nat → Nat) (b0 : Nat) (τ : Nat → Nat) (f : hM) (t : TI G 9 τ f) (u0 : Nat) (hu0 : τ u0 = 60) (ln : Int32) (hln : iv ln 0 200) (k_u0_2 : atp f u0 (fd 2 (.int ln))) (aa : Int32) (haa : iv aa 0 200) (k_u0_3 : atp f u0 (fd 3 (.int aa))) (tq : Nat) (htq : τ tq = 61) (k_u0_1 : atp f u0 (fd 1 (.ref tq))) (rt : Nat → Int32) (hRtq : atp f tq (eqc (.inl (G 0, 200, .inl rt)))) (B : Nat → Int) (hB : ∀ k : Nat, (k : Int) < ln.toInt → (rt k).toInt = sg (B k) ∧ 0 ≤ B k ∧ B k ≤ 255)  : mI l yX11_here cX11_here 1 (.int) rm_s_X11_hereX D G b0 f [.ref u0] (fun r f1 => iv r (-1) 255 ∧ TI G 9 τ f1 ∧ Fr [] τ f f1 ∧ (((((aa.toInt.toNat : Nat) : Int) < ln.toInt → r.toInt = B (aa.toInt.toNat) ∧ 0 ≤ r.toInt) ∧ (ln.toInt ≤ ((aa.toInt.toNat : Nat) : Int) → r.toInt = -1)))) := by
  refine met2 (own := RX11) (by decide) rfl (Nat.le_of_ble_eq_true rfl) ?_
  intro p e s m args below meth c ls Q hQ C hr hini hl h
  have hl : lv_has ls 1 [(0, .ref u0)] := hl
  obtain ⟨hx, hb, hml, hown, hts, hE0, hlk⟩ := id C
  have o := Fr.rf [] τ f
  refine lv_aload_n hx hb dX11_here_0 rfl (lv_at hl 0 rfl) ?_
  refine t_getfd C h t hu0 (by decide) wf_60 (v := .int aa) k_u0_3 fl_X11_90 dX11_here_1 ?_
  refine lv_aload_n hx hb dX11_here_4 rfl (lv_at hl 0 rfl) ?_
  refine t_getfd C h t hu0 (by decide) wf_60 (v := .int ln) k_u0_2 fl_X11_79 dX11_here_5 ?_
  refine lv_icmp_ge (tgt := 27) hx hb dX11_here_8 (by decide) (fun c1 => ?_) (fun c1 => ?_)
  · have c2 : ln.toInt ≤ aa.toInt := Int32.le_iff_toInt_le.mp c1
    refine lv_iconst (v := -1) hx hb dX11_here_27 (by decide) ?_
    exact u_iret C h hr hQ (⟨⟨by decide, by decide⟩, t, o, (by have n_ : (-1 : Int32).toInt = -1 := rfl; omega)⟩) (Nat.le_of_ble_eq_true rfl) (Nat.le_of_ble_eq_true rfl) dX11_here_28
  · have c3 : aa.toInt < ln.toInt := Int32.lt_iff_toInt_lt.mp (iv_nle c1)
    have i4 : iv aa 0 199 := iv_Ll c3 haa hln (by decide)
    have i5 : iv ln 1 200 := iv_Lr c3 haa hln (by decide)
    refine lv_aload_n hx hb dX11_here_11 rfl (lv_at hl 0 rfl) ?_
    refine t_getfd C h t hu0 (by decide) wf_60 (v := .ref tq) k_u0_1 fl_X11_9 dX11_here_12 ?_
    refine lv_aload_n hx hb dX11_here_15 rfl (lv_at hl 0 rfl) ?_
    refine t_getfd C h t hu0 (by decide) wf_60 (v := .int aa) k_u0_3 fl_X11_90 dX11_here_16 ?_
    refine e_bald C h t htq (by decide) wf_61 hRtq (iv_in i4 (by decide)) dX11_here_19 (fun z6 ez6 iz6 => ?_)
    have mz6 := congrArg Int32.toInt ez6
    refine lv_sipush (v := 255) hx hb dX11_here_20 (by decide) ?_
    refine lv_iand hx hb dX11_here_23 (i_top (iv_and (k := 255) rfl (by decide)) (fun z7 ez7 iz7 => ?_))
    refine lv_goto (tgt := 28) hx hb dX11_here_24 (by decide) ?_
    exact u_iret C h hr hQ (⟨(iv_w iz7 (by decide)), t, o, (by
        have h_ := hB aa.toInt.toNat (by omega)
        have e_ : z7.toInt = z6.toInt % 256 := by rw [ez7]; exact and255 z6
        have s_ := sg_mod h_.2
        rw [← h_.1, ← mz6] at s_
        omega)⟩) (Nat.le_of_ble_eq_true rfl) (Nat.le_of_ble_eq_true rfl) dX11_here_28
abbrev rm_s_X11_lookX : Room := { frames := 1, cells := 0, slots := 0, locals := 20 }
set_option maxRecDepth 100000 in
set_option maxHeartbeats 4000000 in
theorem s_X11_lookX (l : Launch) (D : va_G) (G : Nat → Nat) (b0 : Nat) (τ : Nat → Nat) (f : hM) (t : TI G 9 τ f) (u0 : Nat) (hu0 : τ u0 = 60) (ln : Int32) (hln : iv ln 0 200) (k_u0_2 : atp f u0 (fd 2 (.int ln))) (aa : Int32) (haa : iv aa 0 200) (k_u0_3 : atp f u0 (fd 3 (.int aa))) (tq : Nat) (htq : τ tq = 61) (k_u0_1 : atp f u0 (fd 1 (.ref tq))) (rt : Nat → Int32) (hRtq : atp f tq (eqc (.inl (G 0, 200, .inl rt)))) (B : Nat → Int) (hB : ∀ k : Nat, (k : Int) < ln.toInt → (rt k).toInt = sg (B k) ∧ 0 ≤ B k ∧ B k ≤ 255)  : mI l yX11_look cX11_look 1 (.int) rm_s_X11_lookX D G b0 f [.ref u0] (fun r f1 => iv r (-1) 255 ∧ TI G 9 τ f1 ∧ Fr [60, 60004] τ f f1 ∧ ((((((rn 32 32 B ln.toInt.toNat aa.toInt.toNat) : Nat) : Int) < ln.toInt → r.toInt = B ((rn 32 32 B ln.toInt.toNat aa.toInt.toNat)) ∧ 0 ≤ r.toInt) ∧ (ln.toInt ≤ (((rn 32 32 B ln.toInt.toNat aa.toInt.toNat) : Nat) : Int) → r.toInt = -1))) ∧ (∃ aa1 : Int32, atp f1 u0 (fd 3 (.int aa1)) ∧ iv aa1 0 200 ∧ aa1.toInt = (((rn 32 32 B ln.toInt.toNat aa.toInt.toNat) : Nat) : Int))) := by
  refine met2 (own := RX11) (by decide) rfl (Nat.le_of_ble_eq_true rfl) ?_
  intro p e s m args below meth c ls Q hQ C hr hini hl h
  have hl : lv_has ls 1 [(0, .ref u0)] := hl
  obtain ⟨hx, hb, hml, hown, hts, hE0, hlk⟩ := id C
  have o := Fr.rf [60, 60004] τ f
  have L0 : ∀ (n0 : Nat) (ls : Array Slot) (f_0 : hM) (H : Heap) (locs : List Loc) (g0_u0_3 : Int32), 200 - g0_u0_3.toInt < (n0 : Int) → lv_has ls 1 [(0, .ref u0)] → hw D b0 s.heap f_0 H locs → TI G 9 τ f_0 → Fr [60, 60004] τ f f_0 → iv g0_u0_3 0 200 → atp f_0 u0 (fd 2 (.int ln)) → atp f_0 u0 (fd 3 (.int g0_u0_3)) → atp f_0 u0 (fd 1 (.ref tq)) → atp f_0 tq (eqc (.inl (G 0, 200, .inl rt))) → ((rn 32 32 B ln.toInt.toNat (Int.toNat (g0_u0_3.toInt))) = (rn 32 32 B ln.toInt.toNat aa.toInt.toNat)) → W p l e rm_s_X11_lookX s m args below meth c H locs 0 0 Q (F0 m 0 ls []) := by
    intro n0
    induction n0 with
    | zero => intro ls f_0 H locs g0_u0_3 hm0 hl h t_0 o_0 ig0_u0_3 k0_u0_2 k0_u0_3 k0_u0_1 k0_tq_R hv0_0; exact absurd hm0 (by omega)
    | succ n0 ih0 =>
      intro ls f_0 H locs g0_u0_3 hm0 hl h t_0 o_0 ig0_u0_3 k0_u0_2 k0_u0_3 k0_u0_1 k0_tq_R hv0_0
      refine lv_aload_n hx hb dX11_look_0 rfl (lv_at hl 0 rfl) ?_
      obtain ⟨_, r1⟩ := t_rec t_0 hu0 (by decide) wf_60
      refine k_i (r_V C h hl (As := []) (rest := []) (s_X11_hereX l D G b0 τ f_0 t_0 u0 hu0 ln hln k0_u0_2 g0_u0_3 ig0_u0_3 k0_u0_3 tq htq k0_u0_1 rt k0_tq_R B hB) r1 (Cn := RX11) (T := TX11) (N := 32) rfl rfl mk_X11_here w_1561 w_1563 w_41 w_1564 ⟨Nat.le_of_ble_eq_true rfl, Nat.le_of_ble_eq_true rfl⟩ rfl (Nat.le_of_ble_eq_true rfl) ⟨Nat.le_of_ble_eq_true rfl, Nat.le_of_ble_eq_true rfl⟩ rfl dX11_look_1) h (fun r2 f3 H locs p4 h => ?_)
      obtain ⟨ir2, tf3, ogf3, x0r2⟩ := p4
      have egf3 := Fr.nil2 ogf3
      subst egf3
      refine lv_bipush (v := 32) hx hb dX11_look_4 (by decide) ?_
      refine lv_icmp_ne (tgt := 22) hx hb dX11_look_6 (by decide) (fun c5 => ?_) (fun c5 => ?_)
      · have c6 : r2.toInt ≠ 32 := fun z_ => c5 (Int32.toInt_inj.mp z_)
        refine lv_aload_n hx hb dX11_look_22 rfl (lv_at hl 0 rfl) ?_
        obtain ⟨_, r9⟩ := t_rec t_0 hu0 (by decide) wf_60
        refine k_i (r_V C h hl (As := []) (rest := []) (s_X11_hereX l D G b0 τ f_0 t_0 u0 hu0 ln hln k0_u0_2 g0_u0_3 ig0_u0_3 k0_u0_3 tq htq k0_u0_1 rt k0_tq_R B hB) r9 (Cn := RX11) (T := TX11) (N := 32) rfl rfl mk_X11_here w_1561 w_1563 w_41 w_1564 ⟨Nat.le_of_ble_eq_true rfl, Nat.le_of_ble_eq_true rfl⟩ rfl (Nat.le_of_ble_eq_true rfl) ⟨Nat.le_of_ble_eq_true rfl, Nat.le_of_ble_eq_true rfl⟩ rfl dX11_look_23) h (fun r10 f11 H locs p12 h => ?_)
        obtain ⟨ir10, tf11, ogf11, x0r10⟩ := p12
        have egf11 := Fr.nil2 ogf11
        subst egf11
        exact u_iret C h hr hQ (⟨ir10, t_0, o_0, (by rw [← hv0_0, rn_e (by omega)]; omega), ⟨g0_u0_3, k0_u0_3, ig0_u0_3, (by rw [← hv0_0, rn_e (by omega)]; omega)⟩⟩) (Nat.le_of_ble_eq_true rfl) (Nat.le_of_ble_eq_true rfl) dX11_look_26
      · have c7 : r2.toInt = 32 := congrArg Int32.toInt c5
        have i8 : iv r2 32 32 := iv_Q c7 ir2 (iv_k (x := 32) (k := 32) rfl) (by decide)
        refine lv_aload_n hx hb dX11_look_9 rfl (lv_at hl 0 rfl) ?_
        refine lv_dup hx hb dX11_look_10 rfl ?_
        refine t_getfd C h t_0 hu0 (by decide) wf_60 (v := .int g0_u0_3) k0_u0_3 fl_X11_90 dX11_look_11 ?_
        refine lv_iconst (v := 1) hx hb dX11_look_14 (by decide) ?_
        refine i_addk hx hb dX11_look_15 ig0_u0_3 (k := 1) rfl (lo := 1) (hi := 201) (by decide) (fun z13 ez13 mz13 iz13 => ?_)
        refine t_put C h t_0 o_0 hu0 (by decide) (by decide) (by decide) wf_60 fw_60 (k := 3) rfl flw_X11_90 (Or.inr ⟨_, _, _, rfl, rfl⟩) (v := .int z13) rfl rfl ⟨_, rfl, (show iv z13 0 200 from by omega)⟩ dX11_look_16 (fun f14 H locs h tf14 of14 hq ha_ hn_ hk_ => ?_)
        have k15 := hk_ 2 _ (by decide) k0_u0_2
        have k17 := hk_ 1 _ (by decide) k0_u0_1
        have k18 := atp.tg k0_tq_R hq htq (by decide)
        have k19 := ha_
        refine lv_goto (tgt := 0) hx hb dX11_look_19 (by decide) ?_
        exact ih0 ls f14 H locs z13 (show 200 - z13.toInt < _ by omega) (lv_cons hl 0 rfl (lv_nil hl)) h tf14 of14 (show iv z13 0 200 from by omega) k15 k19 k17 k18 (show (rn 32 32 B ln.toInt.toNat (Int.toNat (z13.toInt))) = (rn 32 32 B ln.toInt.toNat aa.toInt.toNat) from (by rw [rn_s (i := Int.toNat g0_u0_3.toInt) (by omega) (by omega)]; exact hv0_0))
  exact L0 201 ls f s.heap [] aa (show 200 - aa.toInt < _ by omega) (lv_cons hl 0 rfl (lv_nil hl)) h t o haa k_u0_2 k_u0_3 k_u0_1 hRtq (show (rn 32 32 B ln.toInt.toNat (Int.toNat (aa.toInt))) = (rn 32 32 B ln.toInt.toNat aa.toInt.toNat) from rfl)
abbrev rm_s_X11_failsX : Room := { frames := 0, cells := 0, slots := 0, locals := 0 }
set_option maxRecDepth 100000 in
set_option maxHeartbeats 4000000 in
theorem s_X11_failsX (l : Launch) (D : va_G) (G : Nat → Nat) (b0 : Nat) (τ : Nat → Nat) (f : hM) (t : TI G 9 τ f) (u0 : Nat) (hu0 : τ u0 = 60) (u1 : Int32) (hu1 : iv u1 0 200) (fa : Int32) (hfa : iv fa (-1) 200) (k_u0_4 : atp f u0 (fd 4 (.int fa))) : mV l yX11_fails cX11_fails 2 rm_s_X11_failsX D G b0 f [.ref u0, .int u1] (fun f1 => TI G 9 τ f1 ∧ Fr [60, 60005] τ f f1 ∧ (∃ fa1 : Int32, atp f1 u0 (fd 4 (.int fa1)) ∧ iv fa1 (-1) 200 ∧ (fa.toInt = -1 → fa1.toInt = u1.toInt) ∧ (fa.toInt ≠ -1 → fa1.toInt = fa.toInt))) := by
  refine met2 (own := RX11) (by decide) rfl (Nat.le_of_ble_eq_true rfl) ?_
  intro p e s m args below meth c ls Q hQ C hr hini hl h
  have hl : lv_has ls 2 [(0, .ref u0), (1, .int u1)] := hl
  obtain ⟨hx, hb, hml, hown, hts, hE0, hlk⟩ := id C
  have o := Fr.rf [60, 60005] τ f
  refine lv_aload_n hx hb dX11_fails_0 rfl (lv_at hl 0 rfl) ?_
  refine t_getfd C h t hu0 (by decide) wf_60 (v := .int fa) k_u0_4 fl_X11_97 dX11_fails_1 ?_
  refine lv_iconst (v := -1) hx hb dX11_fails_4 (by decide) ?_
  refine lv_icmp_ne (tgt := 13) hx hb dX11_fails_5 (by decide) (fun c1 => ?_) (fun c1 => ?_)
  · have c2 : fa.toInt ≠ (-1) := fun z_ => c1 (Int32.toInt_inj.mp z_)
    have i3 : iv fa 0 200 := iv_Nl c2 hfa (by decide)
    exact u_vret C h hr hQ (⟨t, o, ⟨fa, k_u0_4, (iv_w i3 (by decide)), (by omega)⟩⟩) (Nat.le_of_ble_eq_true rfl) (Nat.le_of_ble_eq_true rfl) dX11_fails_13
  · have c4 : fa.toInt = (-1) := congrArg Int32.toInt c1
    have i5 : iv fa (-1) (-1) := iv_Q c4 hfa (iv_k (x := (-1)) (k := (-1)) rfl) (by decide)
    refine lv_aload_n hx hb dX11_fails_8 rfl (lv_at hl 0 rfl) ?_
    refine lv_iload_n hx hb dX11_fails_9 rfl (lv_at hl 1 rfl) ?_
    refine t_put C h t o hu0 (by decide) (by decide) (by decide) wf_60 fw_60 (k := 4) rfl flw_X11_97 (Or.inr ⟨_, _, _, rfl, rfl⟩) (v := .int u1) rfl rfl ⟨_, rfl, (iv_w hu1 (by decide))⟩ dX11_fails_10 (fun f6 H locs h tf6 of6 hq ha_ hn_ hk_ => ?_)
    have k8 := ha_
    exact u_vret C h hr hQ (⟨tf6, of6, ⟨u1, k8, (iv_w hu1 (by decide)), (by omega)⟩⟩) (Nat.le_of_ble_eq_true rfl) (Nat.le_of_ble_eq_true rfl) dX11_fails_13
abbrev rm_s_X11_isDigitX : Room := { frames := 2, cells := 0, slots := 0, locals := 40 }
set_option maxRecDepth 100000 in
set_option maxHeartbeats 4000000 in
theorem s_X11_isDigitX (l : Launch) (D : va_G) (G : Nat → Nat) (b0 : Nat) (τ : Nat → Nat) (f : hM) (t : TI G 9 τ f) (u0 : Nat) (hu0 : τ u0 = 60) (ln : Int32) (hln : iv ln 0 200) (k_u0_2 : atp f u0 (fd 2 (.int ln))) (aa : Int32) (haa : iv aa 0 200) (k_u0_3 : atp f u0 (fd 3 (.int aa))) (tq : Nat) (htq : τ tq = 61) (k_u0_1 : atp f u0 (fd 1 (.ref tq))) (rt : Nat → Int32) (hRtq : atp f tq (eqc (.inl (G 0, 200, .inl rt)))) (B : Nat → Int) (hB : ∀ k : Nat, (k : Int) < ln.toInt → (rt k).toInt = sg (B k) ∧ 0 ≤ B k ∧ B k ≤ 255)  : mI l yX11_isDigit cX11_isDigit 2 (.boolean) rm_s_X11_isDigitX D G b0 f [.ref u0] (fun r f1 => iv r 0 1 ∧ TI G 9 τ f1 ∧ Fr [60, 60004] τ f f1 ∧ (r.toInt ≠ 0 → ((((rn 32 32 B ln.toInt.toNat aa.toInt.toNat) : Nat) : Int) < ln.toInt ∧ 48 ≤ B (rn 32 32 B ln.toInt.toNat aa.toInt.toNat) ∧ B (rn 32 32 B ln.toInt.toNat aa.toInt.toNat) ≤ 57)) ∧ (r.toInt = 0 → ¬ ((((rn 32 32 B ln.toInt.toNat aa.toInt.toNat) : Nat) : Int) < ln.toInt ∧ 48 ≤ B (rn 32 32 B ln.toInt.toNat aa.toInt.toNat) ∧ B (rn 32 32 B ln.toInt.toNat aa.toInt.toNat) ≤ 57)) ∧ (∃ aa1 : Int32, atp f1 u0 (fd 3 (.int aa1)) ∧ iv aa1 0 200 ∧ aa1.toInt = (((rn 32 32 B ln.toInt.toNat aa.toInt.toNat) : Nat) : Int))) := by
  refine met2 (own := RX11) (by decide) rfl (Nat.le_of_ble_eq_true rfl) ?_
  intro p e s m args below meth c ls Q hQ C hr hini hl h
  have hl : lv_has ls 2 [(0, .ref u0)] := hl
  obtain ⟨hx, hb, hml, hown, hts, hE0, hlk⟩ := id C
  have o := Fr.rf [60, 60004] τ f
  refine lv_aload_n hx hb dX11_isDigit_0 rfl (lv_at hl 0 rfl) ?_
  obtain ⟨_, r1⟩ := t_rec t hu0 (by decide) wf_60
  refine k_i (r_V C h hl (As := []) (rest := []) (s_X11_lookX l D G b0 τ f t u0 hu0 ln hln k_u0_2 aa haa k_u0_3 tq htq k_u0_1 rt hRtq B hB) r1 (Cn := RX11) (T := TX11) (N := 32) rfl rfl mk_X11_look w_1557 w_1559 w_40 w_1560 ⟨Nat.le_of_ble_eq_true rfl, Nat.le_of_ble_eq_true rfl⟩ rfl (Nat.le_of_ble_eq_true rfl) ⟨Nat.le_of_ble_eq_true rfl, Nat.le_of_ble_eq_true rfl⟩ rfl dX11_isDigit_1) h (fun r2 f3 H locs p4 h => ?_)
  obtain ⟨ir2, tf3, ogf3, x0r2, ⟨aa1_f3, kpu0_3f3, ipu0_3f3, rpu0_3f3⟩⟩ := p4
  have of3 : Fr [60, 60004] τ f f3 := Fr.tr o ogf3 (by decide) (by decide)
  have k5 := atp.fk k_u0_2 ogf3 hu0 (by decide) (by decide)
  have k6 := atp.fk k_u0_1 ogf3 hu0 (by decide) (by decide)
  have k7 := atp.fr hRtq ogf3 htq (by decide)
  refine lv_istore_n (lv' := [(1, .int r2), (0, .ref u0)]) hx hb dX11_isDigit_4 rfl hl (by decide) rfl (fun ls hl => ?_)
  refine lv_iload_n hx hb dX11_isDigit_5 rfl (lv_at hl 0 rfl) ?_
  refine lv_bipush (v := 48) hx hb dX11_isDigit_6 (by decide) ?_
  refine lv_icmp_lt (tgt := 21) hx hb dX11_isDigit_8 (by decide) (fun c8 => ?_) (fun c8 => ?_)
  · have c9 : r2.toInt < 48 := Int32.lt_iff_toInt_lt.mp c8
    have i10 : iv r2 (-1) 47 := iv_Ll c9 ir2 (iv_k (x := 48) (k := 48) rfl) (by decide)
    refine lv_iconst (v := 0) hx hb dX11_isDigit_21 (by decide) ?_
    exact u_zret C h hr hQ ⟨by decide, by decide⟩ (⟨⟨by decide, by decide⟩, tf3, of3, (fun h_ => absurd h_ (by decide)), (fun _ => (by omega)), ⟨aa1_f3, kpu0_3f3, ipu0_3f3, (by omega)⟩⟩) (Nat.le_of_ble_eq_true rfl) (Nat.le_of_ble_eq_true rfl) dX11_isDigit_22
  · have c11 : 48 ≤ r2.toInt := Int32.le_iff_toInt_le.mp (iv_nlt c8)
    have i12 : iv r2 48 255 := iv_Er c11 (iv_k (x := 48) (k := 48) rfl) ir2 (by decide)
    refine lv_iload_n hx hb dX11_isDigit_11 rfl (lv_at hl 0 rfl) ?_
    refine lv_bipush (v := 57) hx hb dX11_isDigit_12 (by decide) ?_
    refine lv_icmp_gt (tgt := 21) hx hb dX11_isDigit_14 (by decide) (fun c13 => ?_) (fun c13 => ?_)
    · have c14 : 57 < r2.toInt := Int32.lt_iff_toInt_lt.mp c13
      have i15 : iv r2 58 255 := iv_Lr c14 (iv_k (x := 57) (k := 57) rfl) i12 (by decide)
      refine lv_iconst (v := 0) hx hb dX11_isDigit_21 (by decide) ?_
      exact u_zret C h hr hQ ⟨by decide, by decide⟩ (⟨⟨by decide, by decide⟩, tf3, of3, (fun h_ => absurd h_ (by decide)), (fun _ => (by omega)), ⟨aa1_f3, kpu0_3f3, ipu0_3f3, (by omega)⟩⟩) (Nat.le_of_ble_eq_true rfl) (Nat.le_of_ble_eq_true rfl) dX11_isDigit_22
    · have c16 : r2.toInt ≤ 57 := Int32.le_iff_toInt_le.mp (iv_nlt c13)
      have i17 : iv r2 48 57 := iv_El c16 i12 (iv_k (x := 57) (k := 57) rfl) (by decide)
      refine lv_iconst (v := 1) hx hb dX11_isDigit_17 (by decide) ?_
      refine lv_goto (tgt := 22) hx hb dX11_isDigit_18 (by decide) ?_
      exact u_zret C h hr hQ ⟨by decide, by decide⟩ (⟨⟨by decide, by decide⟩, tf3, of3, (fun _ => (by omega)), (fun h_ => absurd h_ (by decide)), ⟨aa1_f3, kpu0_3f3, ipu0_3f3, (by omega)⟩⟩) (Nat.le_of_ble_eq_true rfl) (Nat.le_of_ble_eq_true rfl) dX11_isDigit_22
abbrev rm_s_X11_digitX : Room := { frames := 2, cells := 0, slots := 0, locals := 40 }
set_option maxRecDepth 100000 in
set_option maxHeartbeats 4000000 in
theorem s_X11_digitX (l : Launch) (D : va_G) (G : Nat → Nat) (b0 : Nat) (τ : Nat → Nat) (f : hM) (t : TI G 9 τ f) (u0 : Nat) (hu0 : τ u0 = 60) (u1 : Int32) (hu1 : iv u1 0 1) (ln : Int32) (hln : iv ln 0 200) (k_u0_2 : atp f u0 (fd 2 (.int ln))) (aa : Int32) (haa : iv aa 0 200) (k_u0_3 : atp f u0 (fd 3 (.int aa))) (tq : Nat) (htq : τ tq = 61) (k_u0_1 : atp f u0 (fd 1 (.ref tq))) (fa : Int32) (hfa : iv fa (-1) 200) (k_u0_4 : atp f u0 (fd 4 (.int fa))) (rt : Nat → Int32) (hRtq : atp f tq (eqc (.inl (G 0, 200, .inl rt)))) (B : Nat → Int) (hB : ∀ k : Nat, (k : Int) < ln.toInt → (rt k).toInt = sg (B k) ∧ 0 ≤ B k ∧ B k ≤ 255)  : mI l yX11_digit cX11_digit 5 (.int) rm_s_X11_digitX D G b0 f [.ref u0, .int u1] (fun r f1 => iv r (-1) 9 ∧ TI G 9 τ f1 ∧ Fr [60, 60004, 60005] τ f f1 ∧ ((((rn 48 57 B ln.toInt.toNat (rn 32 32 B ln.toInt.toNat aa.toInt.toNat)) = (rn 32 32 B ln.toInt.toNat aa.toInt.toNat) + 1 → r.toInt = B (rn 32 32 B ln.toInt.toNat aa.toInt.toNat) - 48) ∧ ((rn 48 57 B ln.toInt.toNat (rn 32 32 B ln.toInt.toNat aa.toInt.toNat)) ≠ (rn 32 32 B ln.toInt.toNat aa.toInt.toNat) + 1 → r.toInt = -1))) ∧ (∃ aa1 : Int32, atp f1 u0 (fd 3 (.int aa1)) ∧ iv aa1 0 200 ∧ aa1.toInt = (((rn 48 57 B ln.toInt.toNat (rn 32 32 B ln.toInt.toNat aa.toInt.toNat)) : Nat) : Int)) ∧ (∃ fa1 : Int32, atp f1 u0 (fd 4 (.int fa1)) ∧ iv fa1 (-1) 200 ∧ ((fa.toInt = -1 ∧ r.toInt < u1.toInt) → fa1.toInt = (((rn 32 32 B ln.toInt.toNat aa.toInt.toNat) : Nat) : Int)) ∧ (¬ (fa.toInt = -1 ∧ r.toInt < u1.toInt) → fa1.toInt = fa.toInt))) := by
  refine met2 (own := RX11) (by decide) rfl (Nat.le_of_ble_eq_true rfl) ?_
  intro p e s m args below meth c ls Q hQ C hr hini hl h
  have hl : lv_has ls 5 [(0, .ref u0), (1, .int u1)] := hl
  obtain ⟨hx, hb, hml, hown, hts, hE0, hlk⟩ := id C
  have o := Fr.rf [60, 60004, 60005] τ f
  have L10 : ∀ (n10 : Nat) (ls : Array Slot) (f_10 : hM) (H : Heap) (locs : List Loc) (v10_3 : Int32) (g10_u0_3 : Int32), 200 - g10_u0_3.toInt < (n10 : Int) → lv_has ls 5 [(0, .ref u0), (1, .int u1), (3, .int v10_3)] → hw D b0 s.heap f_10 H locs → TI G 9 τ f_10 → Fr [60, 60004, 60005] τ f f_10 → iv v10_3 0 200 → iv g10_u0_3 0 200 → atp f_10 u0 (fd 2 (.int ln)) → atp f_10 u0 (fd 1 (.ref tq)) → atp f_10 u0 (fd 4 (.int fa)) → atp f_10 tq (eqc (.inl (G 0, 200, .inl rt))) → atp f_10 u0 (fd 3 (.int g10_u0_3)) → v10_3.toInt ≤ g10_u0_3.toInt ∧ g10_u0_3.toInt ≤ 200 ∧ v10_3.toInt = (((rn 32 32 B ln.toInt.toNat aa.toInt.toNat) : Nat) : Int) → (rn 48 57 B ln.toInt.toNat (Int.toNat (g10_u0_3.toInt)) = (rn 48 57 B ln.toInt.toNat (rn 32 32 B ln.toInt.toNat aa.toInt.toNat))) → W p l e rm_s_X11_digitX s m args below meth c H locs 0 0 Q (F0 m 10 ls []) := by
    intro n10
    induction n10 with
    | zero => intro ls f_10 H locs v10_3 g10_u0_3 hm10 hl h t_10 o_10 iv10_3 ig10_u0_3 k10_u0_2 k10_u0_1 k10_u0_4 k10_tq_R k10_u0_3 hv10_0 hv10_1; exact absurd hm10 (by omega)
    | succ n10 ih10 =>
      intro ls f_10 H locs v10_3 g10_u0_3 hm10 hl h t_10 o_10 iv10_3 ig10_u0_3 k10_u0_2 k10_u0_1 k10_u0_4 k10_tq_R k10_u0_3 hv10_0 hv10_1
      refine lv_aload_n hx hb dX11_digit_10 rfl (lv_at hl 0 rfl) ?_
      obtain ⟨_, r1⟩ := t_rec t_10 hu0 (by decide) wf_60
      refine k_i (r_V C h hl (As := []) (rest := []) (s_X11_hereX l D G b0 τ f_10 t_10 u0 hu0 ln hln k10_u0_2 g10_u0_3 ig10_u0_3 k10_u0_3 tq htq k10_u0_1 rt k10_tq_R B hB) r1 (Cn := RX11) (T := TX11) (N := 32) rfl rfl mk_X11_here w_1561 w_1563 w_41 w_1564 ⟨Nat.le_of_ble_eq_true rfl, Nat.le_of_ble_eq_true rfl⟩ rfl (Nat.le_of_ble_eq_true rfl) ⟨Nat.le_of_ble_eq_true rfl, Nat.le_of_ble_eq_true rfl⟩ rfl dX11_digit_11) h (fun r2 f3 H locs p4 h => ?_)
      obtain ⟨ir2, tf3, ogf3, x0r2⟩ := p4
      have egf3 := Fr.nil2 ogf3
      subst egf3
      refine lv_bipush (v := 48) hx hb dX11_digit_14 (by decide) ?_
      refine lv_icmp_lt (tgt := 41) hx hb dX11_digit_16 (by decide) (fun c5 => ?_) (fun c5 => ?_)
      · have c6 : r2.toInt < 48 := Int32.lt_iff_toInt_lt.mp c5
        have i7 : iv r2 (-1) 47 := iv_Ll c6 ir2 (iv_k (x := 48) (k := 48) rfl) (by decide)
        have he_ : (rn 48 57 B ln.toInt.toNat (rn 32 32 B ln.toInt.toNat aa.toInt.toNat)) = Int.toNat g10_u0_3.toInt := by rw [← hv10_1, rn_e (by omega)]
        refine lv_aload_n hx hb dX11_digit_41 rfl (lv_at hl 0 rfl) ?_
        refine t_getfd C h t_10 hu0 (by decide) wf_60 (v := .int g10_u0_3) k10_u0_3 fl_X11_90 dX11_digit_42 ?_
        refine lv_iload_n hx hb dX11_digit_45 rfl (lv_at hl 2 rfl) ?_
        refine i_sub hx hb dX11_digit_46 ig10_u0_3 iv10_3 (lo := (-200)) (hi := 200) (by decide) (fun z10 ez10 mz10 iz10 => ?_)
        refine lv_iconst (v := 1) hx hb dX11_digit_47 (by decide) ?_
        refine lv_icmp_ne (tgt := 63) hx hb dX11_digit_48 (by decide) (fun c11 => ?_) (fun c11 => ?_)
        · have c12 : z10.toInt ≠ 1 := fun z_ => c11 (Int32.toInt_inj.mp z_)
          refine lv_iconst (v := -1) hx hb dX11_digit_63 (by decide) ?_
          refine lv_istore (lv' := [(4, .int (-1)), (0, .ref u0), (1, .int u1), (3, .int v10_3)]) hx hb dX11_digit_64 hl (by decide) rfl (fun ls hl => ?_)
          refine lv_iload hx hb dX11_digit_66 (lv_at hl 0 rfl) ?_
          refine lv_iload_n hx hb dX11_digit_68 rfl (lv_at hl 2 rfl) ?_
          refine lv_icmp_ge (tgt := 77) hx hb dX11_digit_69 (by decide) (fun c15 => ?_) (fun c15 => ?_)
          · have c16 : u1.toInt ≤ (-1) := Int32.le_iff_toInt_le.mp c15
            exact (iv_ce_ c16 hu1 (iv_k (x := (-1)) (k := (-1)) rfl) (by decide)).elim
          · have c17 : (-1) < u1.toInt := Int32.lt_iff_toInt_lt.mp (iv_nle c15)
            refine lv_aload_n hx hb dX11_digit_72 rfl (lv_at hl 1 rfl) ?_
            refine lv_iload_n hx hb dX11_digit_73 rfl (lv_at hl 3 rfl) ?_
            obtain ⟨_, r18⟩ := t_rec t_10 hu0 (by decide) wf_60
            refine k_v (r_V C h hl (As := [.int v10_3]) (rest := []) (s_X11_failsX l D G b0 τ f_10 t_10 u0 hu0 v10_3 iv10_3 fa hfa k10_u0_4) r18 (Cn := RX11) (T := TX11) (N := 32) rfl rfl mk_X11_fails w_1583 w_1585 w_44 w_1586 ⟨Nat.le_of_ble_eq_true rfl, Nat.le_of_ble_eq_true rfl⟩ rfl (Nat.le_of_ble_eq_true rfl) ⟨Nat.le_of_ble_eq_true rfl, Nat.le_of_ble_eq_true rfl⟩ rfl dX11_digit_74) h (fun f20 H locs p21 h => ?_)
            obtain ⟨tf20, ogf20, ⟨fa1_f20, kpu0_4f20, ipu0_4f20, rpu0_4f20⟩⟩ := p21
            have of20 : Fr [60, 60004, 60005] τ f f20 := Fr.tr o_10 ogf20 (by decide) (by decide)
            have k22 := atp.fk k10_u0_2 ogf20 hu0 (by decide) (by decide)
            have k23 := atp.fk k10_u0_1 ogf20 hu0 (by decide) (by decide)
            have k24 := atp.fr k10_tq_R ogf20 htq (by decide)
            have k25 := atp.fk k10_u0_3 ogf20 hu0 (by decide) (by decide)
            refine lv_iload hx hb dX11_digit_77 (lv_at hl 0 rfl) ?_
            exact u_iret C h hr hQ (⟨⟨by decide, by decide⟩, tf20, of20, (by have n_ : (-1 : Int32).toInt = -1 := rfl; omega), ⟨g10_u0_3, k25, ig10_u0_3, (by omega)⟩, ⟨fa1_f20, kpu0_4f20, ipu0_4f20, (by have n_ : (-1 : Int32).toInt = -1 := rfl; omega)⟩⟩) (Nat.le_of_ble_eq_true rfl) (Nat.le_of_ble_eq_true rfl) dX11_digit_79
        · have c13 : z10.toInt = 1 := congrArg Int32.toInt c11
          have i14 : iv z10 1 1 := iv_Q c13 iz10 (iv_k (x := 1) (k := 1) rfl) (by decide)
          refine lv_aload_n hx hb dX11_digit_51 rfl (lv_at hl 0 rfl) ?_
          refine t_getfd C h t_10 hu0 (by decide) wf_60 (v := .ref tq) k10_u0_1 fl_X11_9 dX11_digit_52 ?_
          refine lv_iload_n hx hb dX11_digit_55 rfl (lv_at hl 2 rfl) ?_
          refine e_bald C h t_10 htq (by decide) wf_61 k10_tq_R (ix_o (by omega)) dX11_digit_56 (fun z26 ez26 iz26 => ?_)
          have mz26 := congrArg Int32.toInt ez26
          have o_ := rn_one (lo := 48) (hi := 57) (B := B) (L := ln.toInt.toNat) (i := (rn 32 32 B ln.toInt.toNat aa.toInt.toNat)) (by omega)
          have h_ := hB (rn 32 32 B ln.toInt.toNat aa.toInt.toNat) (by omega)
          have s_ := sg_c h_.2
          have qz26 : z26.toInt = sg (B (rn 32 32 B ln.toInt.toNat aa.toInt.toNat)) := by rw [mz26, ← h_.1]; exact congrArg (fun z_ => (rt z_).toInt) (by omega)
          have i27 : iv z26 48 57 := ⟨by omega, by omega⟩
          refine lv_bipush (v := 48) hx hb dX11_digit_57 (by decide) ?_
          refine i_subk hx hb dX11_digit_59 i27 (k := 48) rfl (lo := 0) (hi := 9) (by decide) (fun z28 ez28 mz28 iz28 => ?_)
          refine lv_goto (tgt := 64) hx hb dX11_digit_60 (by decide) ?_
          refine lv_istore (lv' := [(4, .int z28), (0, .ref u0), (1, .int u1), (3, .int v10_3)]) hx hb dX11_digit_64 hl (by decide) rfl (fun ls hl => ?_)
          refine lv_iload hx hb dX11_digit_66 (lv_at hl 0 rfl) ?_
          refine lv_iload_n hx hb dX11_digit_68 rfl (lv_at hl 2 rfl) ?_
          refine lv_icmp_ge (tgt := 77) hx hb dX11_digit_69 (by decide) (fun c29 => ?_) (fun c29 => ?_)
          · have c30 : u1.toInt ≤ z28.toInt := Int32.le_iff_toInt_le.mp c29
            refine lv_iload hx hb dX11_digit_77 (lv_at hl 0 rfl) ?_
            exact u_iret C h hr hQ (⟨(iv_w iz28 (by decide)), t_10, o_10, (by omega), ⟨g10_u0_3, k10_u0_3, ig10_u0_3, (by omega)⟩, ⟨fa, k10_u0_4, hfa, (by have n_ : (-1 : Int32).toInt = -1 := rfl; omega)⟩⟩) (Nat.le_of_ble_eq_true rfl) (Nat.le_of_ble_eq_true rfl) dX11_digit_79
          · have c31 : z28.toInt < u1.toInt := Int32.lt_iff_toInt_lt.mp (iv_nle c29)
            have i32 : iv z28 0 0 := iv_Ll c31 iz28 hu1 (by decide)
            have i33 : iv u1 1 1 := iv_Lr c31 iz28 hu1 (by decide)
            refine lv_aload_n hx hb dX11_digit_72 rfl (lv_at hl 1 rfl) ?_
            refine lv_iload_n hx hb dX11_digit_73 rfl (lv_at hl 3 rfl) ?_
            obtain ⟨_, r34⟩ := t_rec t_10 hu0 (by decide) wf_60
            refine k_v (r_V C h hl (As := [.int v10_3]) (rest := []) (s_X11_failsX l D G b0 τ f_10 t_10 u0 hu0 v10_3 iv10_3 fa hfa k10_u0_4) r34 (Cn := RX11) (T := TX11) (N := 32) rfl rfl mk_X11_fails w_1583 w_1585 w_44 w_1586 ⟨Nat.le_of_ble_eq_true rfl, Nat.le_of_ble_eq_true rfl⟩ rfl (Nat.le_of_ble_eq_true rfl) ⟨Nat.le_of_ble_eq_true rfl, Nat.le_of_ble_eq_true rfl⟩ rfl dX11_digit_74) h (fun f36 H locs p37 h => ?_)
            obtain ⟨tf36, ogf36, ⟨fa1_f36, kpu0_4f36, ipu0_4f36, rpu0_4f36⟩⟩ := p37
            have of36 : Fr [60, 60004, 60005] τ f f36 := Fr.tr o_10 ogf36 (by decide) (by decide)
            have k38 := atp.fk k10_u0_2 ogf36 hu0 (by decide) (by decide)
            have k39 := atp.fk k10_u0_1 ogf36 hu0 (by decide) (by decide)
            have k40 := atp.fr k10_tq_R ogf36 htq (by decide)
            have k41 := atp.fk k10_u0_3 ogf36 hu0 (by decide) (by decide)
            refine lv_iload hx hb dX11_digit_77 (lv_at hl 0 rfl) ?_
            exact u_iret C h hr hQ (⟨(iv_w i32 (by decide)), tf36, of36, (by omega), ⟨g10_u0_3, k41, ig10_u0_3, (by omega)⟩, ⟨fa1_f36, kpu0_4f36, ipu0_4f36, (by have n_ : (-1 : Int32).toInt = -1 := rfl; omega)⟩⟩) (Nat.le_of_ble_eq_true rfl) (Nat.le_of_ble_eq_true rfl) dX11_digit_79
      · have c8 : 48 ≤ r2.toInt := Int32.le_iff_toInt_le.mp (iv_nlt c5)
        have i9 : iv r2 48 255 := iv_Er c8 (iv_k (x := 48) (k := 48) rfl) ir2 (by decide)
        refine lv_aload_n hx hb dX11_digit_19 rfl (lv_at hl 0 rfl) ?_
        obtain ⟨_, r42⟩ := t_rec t_10 hu0 (by decide) wf_60
        refine k_i (r_V C h hl (As := []) (rest := []) (s_X11_hereX l D G b0 τ f_10 t_10 u0 hu0 ln hln k10_u0_2 g10_u0_3 ig10_u0_3 k10_u0_3 tq htq k10_u0_1 rt k10_tq_R B hB) r42 (Cn := RX11) (T := TX11) (N := 32) rfl rfl mk_X11_here w_1561 w_1563 w_41 w_1564 ⟨Nat.le_of_ble_eq_true rfl, Nat.le_of_ble_eq_true rfl⟩ rfl (Nat.le_of_ble_eq_true rfl) ⟨Nat.le_of_ble_eq_true rfl, Nat.le_of_ble_eq_true rfl⟩ rfl dX11_digit_20) h (fun r43 f44 H locs p45 h => ?_)
        obtain ⟨ir43, tf44, ogf44, x0r43⟩ := p45
        have egf44 := Fr.nil2 ogf44
        subst egf44
        refine lv_bipush (v := 57) hx hb dX11_digit_23 (by decide) ?_
        refine lv_icmp_gt (tgt := 41) hx hb dX11_digit_25 (by decide) (fun c46 => ?_) (fun c46 => ?_)
        · have c47 : 57 < r43.toInt := Int32.lt_iff_toInt_lt.mp c46
          have i48 : iv r43 58 255 := iv_Lr c47 (iv_k (x := 57) (k := 57) rfl) ir43 (by decide)
          have he_ : (rn 48 57 B ln.toInt.toNat (rn 32 32 B ln.toInt.toNat aa.toInt.toNat)) = Int.toNat g10_u0_3.toInt := by rw [← hv10_1, rn_e (by omega)]
          refine lv_aload_n hx hb dX11_digit_41 rfl (lv_at hl 0 rfl) ?_
          refine t_getfd C h t_10 hu0 (by decide) wf_60 (v := .int g10_u0_3) k10_u0_3 fl_X11_90 dX11_digit_42 ?_
          refine lv_iload_n hx hb dX11_digit_45 rfl (lv_at hl 2 rfl) ?_
          refine i_sub hx hb dX11_digit_46 ig10_u0_3 iv10_3 (lo := (-200)) (hi := 200) (by decide) (fun z51 ez51 mz51 iz51 => ?_)
          refine lv_iconst (v := 1) hx hb dX11_digit_47 (by decide) ?_
          refine lv_icmp_ne (tgt := 63) hx hb dX11_digit_48 (by decide) (fun c52 => ?_) (fun c52 => ?_)
          · have c53 : z51.toInt ≠ 1 := fun z_ => c52 (Int32.toInt_inj.mp z_)
            refine lv_iconst (v := -1) hx hb dX11_digit_63 (by decide) ?_
            refine lv_istore (lv' := [(4, .int (-1)), (0, .ref u0), (1, .int u1), (3, .int v10_3)]) hx hb dX11_digit_64 hl (by decide) rfl (fun ls hl => ?_)
            refine lv_iload hx hb dX11_digit_66 (lv_at hl 0 rfl) ?_
            refine lv_iload_n hx hb dX11_digit_68 rfl (lv_at hl 2 rfl) ?_
            refine lv_icmp_ge (tgt := 77) hx hb dX11_digit_69 (by decide) (fun c56 => ?_) (fun c56 => ?_)
            · have c57 : u1.toInt ≤ (-1) := Int32.le_iff_toInt_le.mp c56
              exact (iv_ce_ c57 hu1 (iv_k (x := (-1)) (k := (-1)) rfl) (by decide)).elim
            · have c58 : (-1) < u1.toInt := Int32.lt_iff_toInt_lt.mp (iv_nle c56)
              refine lv_aload_n hx hb dX11_digit_72 rfl (lv_at hl 1 rfl) ?_
              refine lv_iload_n hx hb dX11_digit_73 rfl (lv_at hl 3 rfl) ?_
              obtain ⟨_, r59⟩ := t_rec t_10 hu0 (by decide) wf_60
              refine k_v (r_V C h hl (As := [.int v10_3]) (rest := []) (s_X11_failsX l D G b0 τ f_10 t_10 u0 hu0 v10_3 iv10_3 fa hfa k10_u0_4) r59 (Cn := RX11) (T := TX11) (N := 32) rfl rfl mk_X11_fails w_1583 w_1585 w_44 w_1586 ⟨Nat.le_of_ble_eq_true rfl, Nat.le_of_ble_eq_true rfl⟩ rfl (Nat.le_of_ble_eq_true rfl) ⟨Nat.le_of_ble_eq_true rfl, Nat.le_of_ble_eq_true rfl⟩ rfl dX11_digit_74) h (fun f61 H locs p62 h => ?_)
              obtain ⟨tf61, ogf61, ⟨fa1_f61, kpu0_4f61, ipu0_4f61, rpu0_4f61⟩⟩ := p62
              have of61 : Fr [60, 60004, 60005] τ f f61 := Fr.tr o_10 ogf61 (by decide) (by decide)
              have k63 := atp.fk k10_u0_2 ogf61 hu0 (by decide) (by decide)
              have k64 := atp.fk k10_u0_1 ogf61 hu0 (by decide) (by decide)
              have k65 := atp.fr k10_tq_R ogf61 htq (by decide)
              have k66 := atp.fk k10_u0_3 ogf61 hu0 (by decide) (by decide)
              refine lv_iload hx hb dX11_digit_77 (lv_at hl 0 rfl) ?_
              exact u_iret C h hr hQ (⟨⟨by decide, by decide⟩, tf61, of61, (by have n_ : (-1 : Int32).toInt = -1 := rfl; omega), ⟨g10_u0_3, k66, ig10_u0_3, (by omega)⟩, ⟨fa1_f61, kpu0_4f61, ipu0_4f61, (by have n_ : (-1 : Int32).toInt = -1 := rfl; omega)⟩⟩) (Nat.le_of_ble_eq_true rfl) (Nat.le_of_ble_eq_true rfl) dX11_digit_79
          · have c54 : z51.toInt = 1 := congrArg Int32.toInt c52
            have i55 : iv z51 1 1 := iv_Q c54 iz51 (iv_k (x := 1) (k := 1) rfl) (by decide)
            refine lv_aload_n hx hb dX11_digit_51 rfl (lv_at hl 0 rfl) ?_
            refine t_getfd C h t_10 hu0 (by decide) wf_60 (v := .ref tq) k10_u0_1 fl_X11_9 dX11_digit_52 ?_
            refine lv_iload_n hx hb dX11_digit_55 rfl (lv_at hl 2 rfl) ?_
            refine e_bald C h t_10 htq (by decide) wf_61 k10_tq_R (ix_o (by omega)) dX11_digit_56 (fun z67 ez67 iz67 => ?_)
            have mz67 := congrArg Int32.toInt ez67
            have o_ := rn_one (lo := 48) (hi := 57) (B := B) (L := ln.toInt.toNat) (i := (rn 32 32 B ln.toInt.toNat aa.toInt.toNat)) (by omega)
            have h_ := hB (rn 32 32 B ln.toInt.toNat aa.toInt.toNat) (by omega)
            have s_ := sg_c h_.2
            have qz67 : z67.toInt = sg (B (rn 32 32 B ln.toInt.toNat aa.toInt.toNat)) := by rw [mz67, ← h_.1]; exact congrArg (fun z_ => (rt z_).toInt) (by omega)
            have i68 : iv z67 48 57 := ⟨by omega, by omega⟩
            refine lv_bipush (v := 48) hx hb dX11_digit_57 (by decide) ?_
            refine i_subk hx hb dX11_digit_59 i68 (k := 48) rfl (lo := 0) (hi := 9) (by decide) (fun z69 ez69 mz69 iz69 => ?_)
            refine lv_goto (tgt := 64) hx hb dX11_digit_60 (by decide) ?_
            refine lv_istore (lv' := [(4, .int z69), (0, .ref u0), (1, .int u1), (3, .int v10_3)]) hx hb dX11_digit_64 hl (by decide) rfl (fun ls hl => ?_)
            refine lv_iload hx hb dX11_digit_66 (lv_at hl 0 rfl) ?_
            refine lv_iload_n hx hb dX11_digit_68 rfl (lv_at hl 2 rfl) ?_
            refine lv_icmp_ge (tgt := 77) hx hb dX11_digit_69 (by decide) (fun c70 => ?_) (fun c70 => ?_)
            · have c71 : u1.toInt ≤ z69.toInt := Int32.le_iff_toInt_le.mp c70
              refine lv_iload hx hb dX11_digit_77 (lv_at hl 0 rfl) ?_
              exact u_iret C h hr hQ (⟨(iv_w iz69 (by decide)), t_10, o_10, (by omega), ⟨g10_u0_3, k10_u0_3, ig10_u0_3, (by omega)⟩, ⟨fa, k10_u0_4, hfa, (by have n_ : (-1 : Int32).toInt = -1 := rfl; omega)⟩⟩) (Nat.le_of_ble_eq_true rfl) (Nat.le_of_ble_eq_true rfl) dX11_digit_79
            · have c72 : z69.toInt < u1.toInt := Int32.lt_iff_toInt_lt.mp (iv_nle c70)
              have i73 : iv z69 0 0 := iv_Ll c72 iz69 hu1 (by decide)
              have i74 : iv u1 1 1 := iv_Lr c72 iz69 hu1 (by decide)
              refine lv_aload_n hx hb dX11_digit_72 rfl (lv_at hl 1 rfl) ?_
              refine lv_iload_n hx hb dX11_digit_73 rfl (lv_at hl 3 rfl) ?_
              obtain ⟨_, r75⟩ := t_rec t_10 hu0 (by decide) wf_60
              refine k_v (r_V C h hl (As := [.int v10_3]) (rest := []) (s_X11_failsX l D G b0 τ f_10 t_10 u0 hu0 v10_3 iv10_3 fa hfa k10_u0_4) r75 (Cn := RX11) (T := TX11) (N := 32) rfl rfl mk_X11_fails w_1583 w_1585 w_44 w_1586 ⟨Nat.le_of_ble_eq_true rfl, Nat.le_of_ble_eq_true rfl⟩ rfl (Nat.le_of_ble_eq_true rfl) ⟨Nat.le_of_ble_eq_true rfl, Nat.le_of_ble_eq_true rfl⟩ rfl dX11_digit_74) h (fun f77 H locs p78 h => ?_)
              obtain ⟨tf77, ogf77, ⟨fa1_f77, kpu0_4f77, ipu0_4f77, rpu0_4f77⟩⟩ := p78
              have of77 : Fr [60, 60004, 60005] τ f f77 := Fr.tr o_10 ogf77 (by decide) (by decide)
              have k79 := atp.fk k10_u0_2 ogf77 hu0 (by decide) (by decide)
              have k80 := atp.fk k10_u0_1 ogf77 hu0 (by decide) (by decide)
              have k81 := atp.fr k10_tq_R ogf77 htq (by decide)
              have k82 := atp.fk k10_u0_3 ogf77 hu0 (by decide) (by decide)
              refine lv_iload hx hb dX11_digit_77 (lv_at hl 0 rfl) ?_
              exact u_iret C h hr hQ (⟨(iv_w i73 (by decide)), tf77, of77, (by omega), ⟨g10_u0_3, k82, ig10_u0_3, (by omega)⟩, ⟨fa1_f77, kpu0_4f77, ipu0_4f77, (by have n_ : (-1 : Int32).toInt = -1 := rfl; omega)⟩⟩) (Nat.le_of_ble_eq_true rfl) (Nat.le_of_ble_eq_true rfl) dX11_digit_79
        · have c49 : r43.toInt ≤ 57 := Int32.le_iff_toInt_le.mp (iv_nlt c46)
          have i50 : iv r43 (-1) 57 := iv_El c49 ir43 (iv_k (x := 57) (k := 57) rfl) (by decide)
          refine lv_aload_n hx hb dX11_digit_28 rfl (lv_at hl 0 rfl) ?_
          refine lv_dup hx hb dX11_digit_29 rfl ?_
          refine t_getfd C h t_10 hu0 (by decide) wf_60 (v := .int g10_u0_3) k10_u0_3 fl_X11_90 dX11_digit_30 ?_
          refine lv_iconst (v := 1) hx hb dX11_digit_33 (by decide) ?_
          refine i_addk hx hb dX11_digit_34 ig10_u0_3 (k := 1) rfl (lo := 1) (hi := 201) (by decide) (fun z83 ez83 mz83 iz83 => ?_)
          refine t_put C h t_10 o_10 hu0 (by decide) (by decide) (by decide) wf_60 fw_60 (k := 3) rfl flw_X11_90 (Or.inr ⟨_, _, _, rfl, rfl⟩) (v := .int z83) rfl rfl ⟨_, rfl, (show iv z83 0 200 from by omega)⟩ dX11_digit_35 (fun f84 H locs h tf84 of84 hq ha_ hn_ hk_ => ?_)
          have k85 := hk_ 2 _ (by decide) k10_u0_2
          have k86 := hk_ 1 _ (by decide) k10_u0_1
          have k87 := hk_ 4 _ (by decide) k10_u0_4
          have k88 := atp.tg k10_tq_R hq htq (by decide)
          have k90 := ha_
          refine lv_goto (tgt := 10) hx hb dX11_digit_38 (by decide) ?_
          exact ih10 ls f84 H locs v10_3 z83 (show 200 - z83.toInt < _ by omega) (lv_cons hl 0 rfl (lv_cons hl 1 rfl (lv_cons hl 2 rfl (lv_nil hl)))) h tf84 of84 iv10_3 (show iv z83 0 200 from by omega) k85 k86 k87 k88 k90 (show v10_3.toInt ≤ z83.toInt ∧ z83.toInt ≤ 200 ∧ v10_3.toInt = (((rn 32 32 B ln.toInt.toNat aa.toInt.toNat) : Nat) : Int) by omega) (show rn 48 57 B ln.toInt.toNat (Int.toNat (z83.toInt)) = (rn 48 57 B ln.toInt.toNat (rn 32 32 B ln.toInt.toNat aa.toInt.toNat)) from (by rw [rn_s (i := Int.toNat g10_u0_3.toInt) (by omega) (by omega)]; exact hv10_1))
  refine lv_aload_n hx hb dX11_digit_0 rfl (lv_at hl 0 rfl) ?_
  obtain ⟨_, r91⟩ := t_rec t hu0 (by decide) wf_60
  refine k_i (r_V C h hl (As := []) (rest := []) (s_X11_lookX l D G b0 τ f t u0 hu0 ln hln k_u0_2 aa haa k_u0_3 tq htq k_u0_1 rt hRtq B hB) r91 (Cn := RX11) (T := TX11) (N := 32) rfl rfl mk_X11_look w_1557 w_1559 w_40 w_1560 ⟨Nat.le_of_ble_eq_true rfl, Nat.le_of_ble_eq_true rfl⟩ rfl (Nat.le_of_ble_eq_true rfl) ⟨Nat.le_of_ble_eq_true rfl, Nat.le_of_ble_eq_true rfl⟩ rfl dX11_digit_1) h (fun r92 f93 H locs p94 h => ?_)
  obtain ⟨ir92, tf93, ogf93, x0r92, ⟨aa1_f93, kpu0_3f93, ipu0_3f93, rpu0_3f93⟩⟩ := p94
  have of93 : Fr [60, 60004, 60005] τ f f93 := Fr.tr o ogf93 (by decide) (by decide)
  have k95 := atp.fk k_u0_2 ogf93 hu0 (by decide) (by decide)
  have k96 := atp.fk k_u0_1 ogf93 hu0 (by decide) (by decide)
  have k97 := atp.fk k_u0_4 ogf93 hu0 (by decide) (by decide)
  have k98 := atp.fr hRtq ogf93 htq (by decide)
  refine lv_istore_n (lv' := [(2, .int r92), (0, .ref u0), (1, .int u1)]) hx hb dX11_digit_4 rfl hl (by decide) rfl (fun ls hl => ?_)
  refine lv_aload_n hx hb dX11_digit_5 rfl (lv_at hl 1 rfl) ?_
  refine t_getfd C h tf93 hu0 (by decide) wf_60 (v := .int aa1_f93) kpu0_3f93 fl_X11_90 dX11_digit_6 ?_
  refine lv_istore_n (lv' := [(3, .int aa1_f93), (2, .int r92), (0, .ref u0), (1, .int u1)]) hx hb dX11_digit_9 rfl hl (by decide) rfl (fun ls hl => ?_)
  exact L10 201 ls f93 H locs aa1_f93 aa1_f93 (show 200 - aa1_f93.toInt < _ by omega) (lv_cons hl 2 rfl (lv_cons hl 3 rfl (lv_cons hl 0 rfl (lv_nil hl)))) h tf93 of93 ipu0_3f93 ipu0_3f93 k95 k96 k97 k98 kpu0_3f93 (show aa1_f93.toInt ≤ aa1_f93.toInt ∧ aa1_f93.toInt ≤ 200 ∧ aa1_f93.toInt = (((rn 32 32 B ln.toInt.toNat aa.toInt.toNat) : Nat) : Int) by omega) (show rn 48 57 B ln.toInt.toNat (Int.toNat (aa1_f93.toInt)) = (rn 48 57 B ln.toInt.toNat (rn 32 32 B ln.toInt.toNat aa.toInt.toNat)) from (congrArg (rn 48 57 B ln.toInt.toNat) (by omega)))
