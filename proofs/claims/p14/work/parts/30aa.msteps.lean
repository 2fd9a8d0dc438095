theorem dX11_stepHere_0 : decode cX11_stepHere 0 = .ok (.aload_n 0, 1) := by decide +kernel
theorem dX11_stepHere_1 : decode cX11_stepHere 1 = .ok (.ldc 114, 2) := by decide +kernel
theorem dX11_stepHere_3 : decode cX11_stepHere 3 = .ok (.invokevirtual 116, 3) := by decide +kernel
theorem w_1570 : Cond.methodLink "QuarterWalksModel" 116 yX11_word ∈ wAll := wI7 35 (by decide +kernel) (by decide +kernel)
theorem w_43 : Cond.selects yX11_word.cls yX11_word yX11_word ∈ wAll := wIn 43 (by decide +kernel) (by decide +kernel)
theorem mk_X11_word : mk yX11_word 1 := ⟨by decide +kernel, w_110⟩
theorem w_1572 : Cond.instanceMethod yX11_word ∈ wAll := wI7 37 (by decide +kernel) (by decide +kernel)
theorem w_1573 : Cond.code yX11_word cX11_word 4 (some .boolean) ∈ wAll := wI7 38 (by decide +kernel) (by decide +kernel)
theorem dX11_stepHere_6 : decode cX11_stepHere 6 = .ok (.ifCond .eq 5, 3) := by decide +kernel
theorem dX11_stepHere_11 : decode cX11_stepHere 11 = .ok (.aload_n 0, 1) := by decide +kernel
theorem dX11_stepHere_12 : decode cX11_stepHere 12 = .ok (.ldc 120, 2) := by decide +kernel
theorem dX11_stepHere_14 : decode cX11_stepHere 14 = .ok (.invokevirtual 116, 3) := by decide +kernel
theorem dX11_stepHere_17 : decode cX11_stepHere 17 = .ok (.ifCond .eq 5, 3) := by decide +kernel
theorem dX11_stepHere_22 : decode cX11_stepHere 22 = .ok (.aload_n 0, 1) := by decide +kernel
theorem dX11_stepHere_23 : decode cX11_stepHere 23 = .ok (.ldc 122, 2) := by decide +kernel
theorem dX11_stepHere_25 : decode cX11_stepHere 25 = .ok (.invokevirtual 116, 3) := by decide +kernel
theorem dX11_stepHere_28 : decode cX11_stepHere 28 = .ok (.ifCond .eq 5, 3) := by decide +kernel
theorem dX11_stepHere_33 : decode cX11_stepHere 33 = .ok (.aload_n 0, 1) := by decide +kernel
theorem dX11_stepHere_34 : decode cX11_stepHere 34 = .ok (.ldc 124, 2) := by decide +kernel
theorem dX11_stepHere_36 : decode cX11_stepHere 36 = .ok (.invokevirtual 116, 3) := by decide +kernel
theorem dX11_stepHere_39 : decode cX11_stepHere 39 = .ok (.ifCond .eq 5, 3) := by decide +kernel
theorem dX11_stepHere_44 : decode cX11_stepHere 44 = .ok (.aload_n 0, 1) := by decide +kernel
theorem dX11_stepHere_45 : decode cX11_stepHere 45 = .ok (.ldc 126, 2) := by decide +kernel
theorem dX11_stepHere_47 : decode cX11_stepHere 47 = .ok (.invokevirtual 116, 3) := by decide +kernel
theorem dX11_stepHere_50 : decode cX11_stepHere 50 = .ok (.ifCond .eq 5, 3) := by decide +kernel
theorem dX11_stepHere_55 : decode cX11_stepHere 55 = .ok (.aload_n 0, 1) := by decide +kernel
theorem dX11_stepHere_56 : decode cX11_stepHere 56 = .ok (.ldc 128, 2) := by decide +kernel
theorem dX11_stepHere_58 : decode cX11_stepHere 58 = .ok (.invokevirtual 116, 3) := by decide +kernel
theorem dX11_stepHere_61 : decode cX11_stepHere 61 = .ok (.ifCond .eq 5, 3) := by decide +kernel
theorem dX11_stepHere_66 : decode cX11_stepHere 66 = .ok (.aload_n 0, 1) := by decide +kernel
theorem dX11_stepHere_67 : decode cX11_stepHere 67 = .ok (.ldc 130, 2) := by decide +kernel
theorem dX11_stepHere_69 : decode cX11_stepHere 69 = .ok (.invokevirtual 116, 3) := by decide +kernel
theorem dX11_stepHere_72 : decode cX11_stepHere 72 = .ok (.ifCond .eq 6, 3) := by decide +kernel
theorem dX11_stepHere_78 : decode cX11_stepHere 78 = .ok (.aload_n 0, 1) := by decide +kernel
theorem dX11_stepHere_79 : decode cX11_stepHere 79 = .ok (.ldc 132, 2) := by decide +kernel
theorem dX11_stepHere_81 : decode cX11_stepHere 81 = .ok (.invokevirtual 116, 3) := by decide +kernel
theorem dX11_stepHere_84 : decode cX11_stepHere 84 = .ok (.ifCond .eq 8, 3) := by decide +kernel
theorem dX11_stepHere_92 : decode cX11_stepHere 92 = .ok (.iconst (-1), 1) := by decide +kernel
theorem dX11_stepHere_87 : decode cX11_stepHere 87 = .ok (.bipush 7, 2) := by decide +kernel
theorem dX11_stepHere_89 : decode cX11_stepHere 89 = .ok (.goto 4, 3) := by decide +kernel
theorem dX11_stepHere_75 : decode cX11_stepHere 75 = .ok (.bipush 6, 2) := by decide +kernel
theorem dX11_stepHere_64 : decode cX11_stepHere 64 = .ok (.iconst 5, 1) := by decide +kernel
theorem dX11_stepHere_53 : decode cX11_stepHere 53 = .ok (.iconst 4, 1) := by decide +kernel
theorem dX11_stepHere_42 : decode cX11_stepHere 42 = .ok (.iconst 3, 1) := by decide +kernel
theorem dX11_stepHere_31 : decode cX11_stepHere 31 = .ok (.iconst 2, 1) := by decide +kernel
theorem dX11_stepHere_20 : decode cX11_stepHere 20 = .ok (.iconst 1, 1) := by decide +kernel
theorem dX11_stepHere_9 : decode cX11_stepHere 9 = .ok (.iconst 0, 1) := by decide +kernel
theorem dX11_stepHere_93 : decode cX11_stepHere 93 = .ok (.ireturn, 1) := by decide +kernel
theorem dX11_stepHere_77 : decode cX11_stepHere 77 = .ok (.ireturn, 1) := by decide +kernel
theorem dX11_stepHere_65 : decode cX11_stepHere 65 = .ok (.ireturn, 1) := by decide +kernel
theorem dX11_stepHere_54 : decode cX11_stepHere 54 = .ok (.ireturn, 1) := by decide +kernel
theorem dX11_stepHere_43 : decode cX11_stepHere 43 = .ok (.ireturn, 1) := by decide +kernel
theorem dX11_stepHere_32 : decode cX11_stepHere 32 = .ok (.ireturn, 1) := by decide +kernel
theorem dX11_stepHere_21 : decode cX11_stepHere 21 = .ok (.ireturn, 1) := by decide +kernel
theorem dX11_stepHere_10 : decode cX11_stepHere 10 = .ok (.ireturn, 1) := by decide +kernel
abbrev rm_s_X11_stepHereX : Room := { frames := 5, cells := 0, slots := 0, locals := 108 }
set_option maxRecDepth 100000 in
set_option maxHeartbeats 4000000 in
theorem s_X11_stepHereX (l : Launch) (D : va_G) (G : Nat → Nat) (b0 : Nat) (τ : Nat → Nat) (f : hM) (t : TI G 9 τ f) (u0 : Nat) (hu0 : τ u0 = 60) (ln : Int32) (hln : iv ln 0 200) (k_u0_2 : atp f u0 (fd 2 (.int ln))) (aa : Int32) (haa : iv aa 0 200) (k_u0_3 : atp f u0 (fd 3 (.int aa))) (tq : Nat) (htq : τ tq = 61) (k_u0_1 : atp f u0 (fd 1 (.ref tq))) (rt : Nat → Int32) (hRtq : atp f tq (eqc (.inl (G 0, 200, .inl rt)))) (B : Nat → Int) (hB : ∀ k : Nat, (k : Int) < ln.toInt → (rt k).toInt = sg (B k) ∧ 0 ≤ B k ∧ B k ≤ 255)  : mI l yX11_stepHere cX11_stepHere 1 (.int) rm_s_X11_stepHereX D G b0 f [.ref u0] (fun r f1 => iv r (-1) 7 ∧ TI G 9 τ f1 ∧ Fr [60, 60004] τ f f1 ∧ (r.toInt = sh B ln.toInt.toNat (rn 32 32 B ln.toInt.toNat aa.toInt.toNat)) ∧ (∃ aa1 : Int32, atp f1 u0 (fd 3 (.int aa1)) ∧ iv aa1 0 200 ∧ (r.toInt ≠ -1 → aa1.toInt = (((te B ln.toInt.toNat (rn 32 32 B ln.toInt.toNat aa.toInt.toNat)) : Nat) : Int)) ∧ (r.toInt = -1 → aa1.toInt = (((rn 32 32 B ln.toInt.toNat aa.toInt.toNat) : Nat) : Int)))) := by
  refine met2 (own := RX11) (by decide) rfl (Nat.le_of_ble_eq_true rfl) ?_
  intro p e s m args below meth c ls Q hQ C hr hini hl h
  have hl : lv_has ls 1 [(0, .ref u0)] := hl
  obtain ⟨hx, hb, hml, hown, hts, hE0, hlk⟩ := id C
  have o := Fr.rf [60, 60004] τ f
  refine lv_aload_n hx hb dX11_stepHere_0 rfl (lv_at hl 0 rfl) ?_
  refine va_ldcS hx hb hown (hE0.2.2.2.2.2.2.2.2.1 ("QuarterWalksModel", 114, "n", 0) (by decide)) dX11_stepHere_1 ?_
  obtain ⟨_, r1⟩ := t_rec t hu0 (by decide) wf_60
  refine k_i (r_V C h hl (As := [.ref (G (20 + 0))]) (rest := []) (s_X11_wordX0 l D G b0 τ f t u0 hu0 ln hln k_u0_2 aa haa k_u0_3 tq htq k_u0_1 rt hRtq B hB) r1 (Cn := RX11) (T := TX11) (N := 32) rfl rfl mk_X11_word w_1570 w_1572 w_43 w_1573 ⟨Nat.le_of_ble_eq_true rfl, Nat.le_of_ble_eq_true rfl⟩ rfl (Nat.le_of_ble_eq_true rfl) ⟨Nat.le_of_ble_eq_true rfl, Nat.le_of_ble_eq_true rfl⟩ rfl dX11_stepHere_3) h (fun r2 f3 H locs p4 h => ?_)
  obtain ⟨ir2, tf3, ogf3, cnr2, czr2, ⟨aa1_f3, kpu0_3f3, ipu0_3f3, rpu0_3f3⟩⟩ := p4
  have of3 : Fr [60, 60004] τ f f3 := Fr.tr o ogf3 (by decide) (by decide)
  have k5 := atp.fk k_u0_2 ogf3 hu0 (by decide) (by decide)
  have k6 := atp.fk k_u0_1 ogf3 hu0 (by decide) (by decide)
  have k7 := atp.fr hRtq ogf3 htq (by decide)
  refine lv_if_eq (tgt := 11) hx hb dX11_stepHere_6 (by decide) (fun c8 => ?_) (fun c8 => ?_)
  · have c9 : r2.toInt = 0 := congrArg Int32.toInt c8
    have i10 : iv r2 0 0 := iv_Q c9 ir2 (iv_k (x := 0) (k := 0) rfl) (by decide)
    have i11 := czr2 c9
    refine lv_aload_n hx hb dX11_stepHere_11 rfl (lv_at hl 0 rfl) ?_
    refine va_ldcS hx hb hown (hE0.2.2.2.2.2.2.2.2.1 ("QuarterWalksModel", 120, "ne", 1) (by decide)) dX11_stepHere_12 ?_
    obtain ⟨_, r15⟩ := t_rec tf3 hu0 (by decide) wf_60
    refine k_i (r_V C h hl (As := [.ref (G (20 + 1))]) (rest := []) (s_X11_wordX1 l D G b0 τ f3 tf3 u0 hu0 ln hln k5 aa1_f3 ipu0_3f3 kpu0_3f3 tq htq k6 rt k7 B hB) r15 (Cn := RX11) (T := TX11) (N := 32) rfl rfl mk_X11_word w_1570 w_1572 w_43 w_1573 ⟨Nat.le_of_ble_eq_true rfl, Nat.le_of_ble_eq_true rfl⟩ rfl (Nat.le_of_ble_eq_true rfl) ⟨Nat.le_of_ble_eq_true rfl, Nat.le_of_ble_eq_true rfl⟩ rfl dX11_stepHere_14) h (fun r16 f17 H locs p18 h => ?_)
    obtain ⟨ir16, tf17, ogf17, cnr16, czr16, ⟨aa1_f17, kpu0_3f17, ipu0_3f17, rpu0_3f17⟩⟩ := p18
    have of17 : Fr [60, 60004] τ f f17 := Fr.tr of3 ogf17 (by decide) (by decide)
    have k19 := atp.fk k5 ogf17 hu0 (by decide) (by decide)
    have k20 := atp.fk k6 ogf17 hu0 (by decide) (by decide)
    have k21 := atp.fr k7 ogf17 htq (by decide)
    have eKr16 : rn 32 32 B ln.toInt.toNat aa1_f3.toInt.toNat = (rn 32 32 B ln.toInt.toNat aa.toInt.toNat) := by rw [show aa1_f3.toInt.toNat = (rn 32 32 B ln.toInt.toNat aa.toInt.toNat) by omega]; exact rn_rn _
    rw [eKr16] at cnr16 czr16 rpu0_3f17
    refine lv_if_eq (tgt := 22) hx hb dX11_stepHere_17 (by decide) (fun c22 => ?_) (fun c22 => ?_)
    · have c23 : r16.toInt = 0 := congrArg Int32.toInt c22
      have i24 : iv r16 0 0 := iv_Q c23 ir16 (iv_k (x := 0) (k := 0) rfl) (by decide)
      have i25 := czr16 c23
      refine lv_aload_n hx hb dX11_stepHere_22 rfl (lv_at hl 0 rfl) ?_
      refine va_ldcS hx hb hown (hE0.2.2.2.2.2.2.2.2.1 ("QuarterWalksModel", 122, "e", 2) (by decide)) dX11_stepHere_23 ?_
      obtain ⟨_, r29⟩ := t_rec tf17 hu0 (by decide) wf_60
      refine k_i (r_V C h hl (As := [.ref (G (20 + 2))]) (rest := []) (s_X11_wordX2 l D G b0 τ f17 tf17 u0 hu0 ln hln k19 aa1_f17 ipu0_3f17 kpu0_3f17 tq htq k20 rt k21 B hB) r29 (Cn := RX11) (T := TX11) (N := 32) rfl rfl mk_X11_word w_1570 w_1572 w_43 w_1573 ⟨Nat.le_of_ble_eq_true rfl, Nat.le_of_ble_eq_true rfl⟩ rfl (Nat.le_of_ble_eq_true rfl) ⟨Nat.le_of_ble_eq_true rfl, Nat.le_of_ble_eq_true rfl⟩ rfl dX11_stepHere_25) h (fun r30 f31 H locs p32 h => ?_)
      obtain ⟨ir30, tf31, ogf31, cnr30, czr30, ⟨aa1_f31, kpu0_3f31, ipu0_3f31, rpu0_3f31⟩⟩ := p32
      have of31 : Fr [60, 60004] τ f f31 := Fr.tr of17 ogf31 (by decide) (by decide)
      have k33 := atp.fk k19 ogf31 hu0 (by decide) (by decide)
      have k34 := atp.fk k20 ogf31 hu0 (by decide) (by decide)
      have k35 := atp.fr k21 ogf31 htq (by decide)
      have eKr30 : rn 32 32 B ln.toInt.toNat aa1_f17.toInt.toNat = (rn 32 32 B ln.toInt.toNat aa.toInt.toNat) := by rw [show aa1_f17.toInt.toNat = (rn 32 32 B ln.toInt.toNat aa.toInt.toNat) by omega]; exact rn_rn _
      rw [eKr30] at cnr30 czr30 rpu0_3f31
      refine lv_if_eq (tgt := 33) hx hb dX11_stepHere_28 (by decide) (fun c36 => ?_) (fun c36 => ?_)
      · have c37 : r30.toInt = 0 := congrArg Int32.toInt c36
        have i38 : iv r30 0 0 := iv_Q c37 ir30 (iv_k (x := 0) (k := 0) rfl) (by decide)
        have i39 := czr30 c37
        refine lv_aload_n hx hb dX11_stepHere_33 rfl (lv_at hl 0 rfl) ?_
        refine va_ldcS hx hb hown (hE0.2.2.2.2.2.2.2.2.1 ("QuarterWalksModel", 124, "se", 3) (by decide)) dX11_stepHere_34 ?_
        obtain ⟨_, r43⟩ := t_rec tf31 hu0 (by decide) wf_60
        refine k_i (r_V C h hl (As := [.ref (G (20 + 3))]) (rest := []) (s_X11_wordX3 l D G b0 τ f31 tf31 u0 hu0 ln hln k33 aa1_f31 ipu0_3f31 kpu0_3f31 tq htq k34 rt k35 B hB) r43 (Cn := RX11) (T := TX11) (N := 32) rfl rfl mk_X11_word w_1570 w_1572 w_43 w_1573 ⟨Nat.le_of_ble_eq_true rfl, Nat.le_of_ble_eq_true rfl⟩ rfl (Nat.le_of_ble_eq_true rfl) ⟨Nat.le_of_ble_eq_true rfl, Nat.le_of_ble_eq_true rfl⟩ rfl dX11_stepHere_36) h (fun r44 f45 H locs p46 h => ?_)
        obtain ⟨ir44, tf45, ogf45, cnr44, czr44, ⟨aa1_f45, kpu0_3f45, ipu0_3f45, rpu0_3f45⟩⟩ := p46
        have of45 : Fr [60, 60004] τ f f45 := Fr.tr of31 ogf45 (by decide) (by decide)
        have k47 := atp.fk k33 ogf45 hu0 (by decide) (by decide)
        have k48 := atp.fk k34 ogf45 hu0 (by decide) (by decide)
        have k49 := atp.fr k35 ogf45 htq (by decide)
        have eKr44 : rn 32 32 B ln.toInt.toNat aa1_f31.toInt.toNat = (rn 32 32 B ln.toInt.toNat aa.toInt.toNat) := by rw [show aa1_f31.toInt.toNat = (rn 32 32 B ln.toInt.toNat aa.toInt.toNat) by omega]; exact rn_rn _
        rw [eKr44] at cnr44 czr44 rpu0_3f45
        refine lv_if_eq (tgt := 44) hx hb dX11_stepHere_39 (by decide) (fun c50 => ?_) (fun c50 => ?_)
        · have c51 : r44.toInt = 0 := congrArg Int32.toInt c50
          have i52 : iv r44 0 0 := iv_Q c51 ir44 (iv_k (x := 0) (k := 0) rfl) (by decide)
          have i53 := czr44 c51
          refine lv_aload_n hx hb dX11_stepHere_44 rfl (lv_at hl 0 rfl) ?_
          refine va_ldcS hx hb hown (hE0.2.2.2.2.2.2.2.2.1 ("QuarterWalksModel", 126, "s", 4) (by decide)) dX11_stepHere_45 ?_
          obtain ⟨_, r57⟩ := t_rec tf45 hu0 (by decide) wf_60
          refine k_i (r_V C h hl (As := [.ref (G (20 + 4))]) (rest := []) (s_X11_wordX4 l D G b0 τ f45 tf45 u0 hu0 ln hln k47 aa1_f45 ipu0_3f45 kpu0_3f45 tq htq k48 rt k49 B hB) r57 (Cn := RX11) (T := TX11) (N := 32) rfl rfl mk_X11_word w_1570 w_1572 w_43 w_1573 ⟨Nat.le_of_ble_eq_true rfl, Nat.le_of_ble_eq_true rfl⟩ rfl (Nat.le_of_ble_eq_true rfl) ⟨Nat.le_of_ble_eq_true rfl, Nat.le_of_ble_eq_true rfl⟩ rfl dX11_stepHere_47) h (fun r58 f59 H locs p60 h => ?_)
          obtain ⟨ir58, tf59, ogf59, cnr58, czr58, ⟨aa1_f59, kpu0_3f59, ipu0_3f59, rpu0_3f59⟩⟩ := p60
          have of59 : Fr [60, 60004] τ f f59 := Fr.tr of45 ogf59 (by decide) (by decide)
          have k61 := atp.fk k47 ogf59 hu0 (by decide) (by decide)
          have k62 := atp.fk k48 ogf59 hu0 (by decide) (by decide)
          have k63 := atp.fr k49 ogf59 htq (by decide)
          have eKr58 : rn 32 32 B ln.toInt.toNat aa1_f45.toInt.toNat = (rn 32 32 B ln.toInt.toNat aa.toInt.toNat) := by rw [show aa1_f45.toInt.toNat = (rn 32 32 B ln.toInt.toNat aa.toInt.toNat) by omega]; exact rn_rn _
          rw [eKr58] at cnr58 czr58 rpu0_3f59
          refine lv_if_eq (tgt := 55) hx hb dX11_stepHere_50 (by decide) (fun c64 => ?_) (fun c64 => ?_)
          · have c65 : r58.toInt = 0 := congrArg Int32.toInt c64
            have i66 : iv r58 0 0 := iv_Q c65 ir58 (iv_k (x := 0) (k := 0) rfl) (by decide)
            have i67 := czr58 c65
            refine lv_aload_n hx hb dX11_stepHere_55 rfl (lv_at hl 0 rfl) ?_
            refine va_ldcS hx hb hown (hE0.2.2.2.2.2.2.2.2.1 ("QuarterWalksModel", 128, "sw", 5) (by decide)) dX11_stepHere_56 ?_
            obtain ⟨_, r71⟩ := t_rec tf59 hu0 (by decide) wf_60
            refine k_i (r_V C h hl (As := [.ref (G (20 + 5))]) (rest := []) (s_X11_wordX5 l D G b0 τ f59 tf59 u0 hu0 ln hln k61 aa1_f59 ipu0_3f59 kpu0_3f59 tq htq k62 rt k63 B hB) r71 (Cn := RX11) (T := TX11) (N := 32) rfl rfl mk_X11_word w_1570 w_1572 w_43 w_1573 ⟨Nat.le_of_ble_eq_true rfl, Nat.le_of_ble_eq_true rfl⟩ rfl (Nat.le_of_ble_eq_true rfl) ⟨Nat.le_of_ble_eq_true rfl, Nat.le_of_ble_eq_true rfl⟩ rfl dX11_stepHere_58) h (fun r72 f73 H locs p74 h => ?_)
            obtain ⟨ir72, tf73, ogf73, cnr72, czr72, ⟨aa1_f73, kpu0_3f73, ipu0_3f73, rpu0_3f73⟩⟩ := p74
            have of73 : Fr [60, 60004] τ f f73 := Fr.tr of59 ogf73 (by decide) (by decide)
            have k75 := atp.fk k61 ogf73 hu0 (by decide) (by decide)
            have k76 := atp.fk k62 ogf73 hu0 (by decide) (by decide)
            have k77 := atp.fr k63 ogf73 htq (by decide)
            have eKr72 : rn 32 32 B ln.toInt.toNat aa1_f59.toInt.toNat = (rn 32 32 B ln.toInt.toNat aa.toInt.toNat) := by rw [show aa1_f59.toInt.toNat = (rn 32 32 B ln.toInt.toNat aa.toInt.toNat) by omega]; exact rn_rn _
            rw [eKr72] at cnr72 czr72 rpu0_3f73
            refine lv_if_eq (tgt := 66) hx hb dX11_stepHere_61 (by decide) (fun c78 => ?_) (fun c78 => ?_)
            · have c79 : r72.toInt = 0 := congrArg Int32.toInt c78
              have i80 : iv r72 0 0 := iv_Q c79 ir72 (iv_k (x := 0) (k := 0) rfl) (by decide)
              have i81 := czr72 c79
              refine lv_aload_n hx hb dX11_stepHere_66 rfl (lv_at hl 0 rfl) ?_
              refine va_ldcS hx hb hown (hE0.2.2.2.2.2.2.2.2.1 ("QuarterWalksModel", 130, "w", 6) (by decide)) dX11_stepHere_67 ?_
              obtain ⟨_, r85⟩ := t_rec tf73 hu0 (by decide) wf_60
              refine k_i (r_V C h hl (As := [.ref (G (20 + 6))]) (rest := []) (s_X11_wordX6 l D G b0 τ f73 tf73 u0 hu0 ln hln k75 aa1_f73 ipu0_3f73 kpu0_3f73 tq htq k76 rt k77 B hB) r85 (Cn := RX11) (T := TX11) (N := 32) rfl rfl mk_X11_word w_1570 w_1572 w_43 w_1573 ⟨Nat.le_of_ble_eq_true rfl, Nat.le_of_ble_eq_true rfl⟩ rfl (Nat.le_of_ble_eq_true rfl) ⟨Nat.le_of_ble_eq_true rfl, Nat.le_of_ble_eq_true rfl⟩ rfl dX11_stepHere_69) h (fun r86 f87 H locs p88 h => ?_)
              obtain ⟨ir86, tf87, ogf87, cnr86, czr86, ⟨aa1_f87, kpu0_3f87, ipu0_3f87, rpu0_3f87⟩⟩ := p88
              have of87 : Fr [60, 60004] τ f f87 := Fr.tr of73 ogf87 (by decide) (by decide)
              have k89 := atp.fk k75 ogf87 hu0 (by decide) (by decide)
              have k90 := atp.fk k76 ogf87 hu0 (by decide) (by decide)
              have k91 := atp.fr k77 ogf87 htq (by decide)
              have eKr86 : rn 32 32 B ln.toInt.toNat aa1_f73.toInt.toNat = (rn 32 32 B ln.toInt.toNat aa.toInt.toNat) := by rw [show aa1_f73.toInt.toNat = (rn 32 32 B ln.toInt.toNat aa.toInt.toNat) by omega]; exact rn_rn _
              rw [eKr86] at cnr86 czr86 rpu0_3f87
              refine lv_if_eq (tgt := 78) hx hb dX11_stepHere_72 (by decide) (fun c92 => ?_) (fun c92 => ?_)
              · have c93 : r86.toInt = 0 := congrArg Int32.toInt c92
                have i94 : iv r86 0 0 := iv_Q c93 ir86 (iv_k (x := 0) (k := 0) rfl) (by decide)
                have i95 := czr86 c93
                refine lv_aload_n hx hb dX11_stepHere_78 rfl (lv_at hl 0 rfl) ?_
                refine va_ldcS hx hb hown (hE0.2.2.2.2.2.2.2.2.1 ("QuarterWalksModel", 132, "nw", 7) (by decide)) dX11_stepHere_79 ?_
                obtain ⟨_, r99⟩ := t_rec tf87 hu0 (by decide) wf_60
                refine k_i (r_V C h hl (As := [.ref (G (20 + 7))]) (rest := []) (s_X11_wordX7 l D G b0 τ f87 tf87 u0 hu0 ln hln k89 aa1_f87 ipu0_3f87 kpu0_3f87 tq htq k90 rt k91 B hB) r99 (Cn := RX11) (T := TX11) (N := 32) rfl rfl mk_X11_word w_1570 w_1572 w_43 w_1573 ⟨Nat.le_of_ble_eq_true rfl, Nat.le_of_ble_eq_true rfl⟩ rfl (Nat.le_of_ble_eq_true rfl) ⟨Nat.le_of_ble_eq_true rfl, Nat.le_of_ble_eq_true rfl⟩ rfl dX11_stepHere_81) h (fun r100 f101 H locs p102 h => ?_)
                obtain ⟨ir100, tf101, ogf101, cnr100, czr100, ⟨aa1_f101, kpu0_3f101, ipu0_3f101, rpu0_3f101⟩⟩ := p102
                have of101 : Fr [60, 60004] τ f f101 := Fr.tr of87 ogf101 (by decide) (by decide)
                have k103 := atp.fk k89 ogf101 hu0 (by decide) (by decide)
                have k104 := atp.fk k90 ogf101 hu0 (by decide) (by decide)
                have k105 := atp.fr k91 ogf101 htq (by decide)
                have eKr100 : rn 32 32 B ln.toInt.toNat aa1_f87.toInt.toNat = (rn 32 32 B ln.toInt.toNat aa.toInt.toNat) := by rw [show aa1_f87.toInt.toNat = (rn 32 32 B ln.toInt.toNat aa.toInt.toNat) by omega]; exact rn_rn _
                rw [eKr100] at cnr100 czr100 rpu0_3f101
                refine lv_if_eq (tgt := 92) hx hb dX11_stepHere_84 (by decide) (fun c106 => ?_) (fun c106 => ?_)
                · have c107 : r100.toInt = 0 := congrArg Int32.toInt c106
                  have i108 : iv r100 0 0 := iv_Q c107 ir100 (iv_k (x := 0) (k := 0) rfl) (by decide)
                  have i109 := czr100 c107
                  refine lv_iconst (v := -1) hx hb dX11_stepHere_92 (by decide) ?_
                  exact u_iret C h hr hQ (⟨⟨by decide, by decide⟩, tf101, of101, (by
                      have n_ : (-1 : Int32).toInt = -1 := rfl
                      rw [sh_0 (czr2 (by omega)) (czr16 (by omega)) (czr30 (by omega)) (czr44 (by omega)) (czr58 (by omega)) (czr72 (by omega)) (czr86 (by omega)) (czr100 (by omega))]; exact n_), ⟨aa1_f101, kpu0_3f101, ipu0_3f101, (by
                      have n_ : (-1 : Int32).toInt = -1 := rfl
                      omega)⟩⟩) (Nat.le_of_ble_eq_true rfl) (Nat.le_of_ble_eq_true rfl) dX11_stepHere_93
                · have c110 : r100.toInt ≠ 0 := fun z_ => c106 (Int32.toInt_inj.mp z_)
                  have i111 : iv r100 1 1 := iv_Nl c110 ir100 (by decide)
                  have i112 := cnr100 c110
                  refine lv_bipush (v := 7) hx hb dX11_stepHere_87 (by decide) ?_
                  refine lv_goto (tgt := 93) hx hb dX11_stepHere_89 (by decide) ?_
                  exact u_iret C h hr hQ (⟨⟨by decide, by decide⟩, tf101, of101, (by
                      have n_ : (7 : Int32).toInt = 7 := rfl
                      have h_ := sh_2 (t := 7) (cnr100 (by omega)) (by decide) (by decide) rfl
                      rw [h_.2]; exact n_), ⟨aa1_f101, kpu0_3f101, ipu0_3f101, (by
                      have n_ : (7 : Int32).toInt = 7 := rfl
                      have h_ := sh_2 (t := 7) (cnr100 (by omega)) (by decide) (by decide) rfl
                      rw [h_.1]; omega)⟩⟩) (Nat.le_of_ble_eq_true rfl) (Nat.le_of_ble_eq_true rfl) dX11_stepHere_93
              · have c96 : r86.toInt ≠ 0 := fun z_ => c92 (Int32.toInt_inj.mp z_)
                have i97 : iv r86 1 1 := iv_Nl c96 ir86 (by decide)
                have i98 := cnr86 c96
                refine lv_bipush (v := 6) hx hb dX11_stepHere_75 (by decide) ?_
                exact u_iret C h hr hQ (⟨⟨by decide, by decide⟩, tf87, of87, (by
                    have n_ : (6 : Int32).toInt = 6 := rfl
                    have h_ := sh_1 (t := 6) (cnr86 (by omega)) (by decide) rfl
                    rw [h_.2]; exact n_), ⟨aa1_f87, kpu0_3f87, ipu0_3f87, (by
                    have n_ : (6 : Int32).toInt = 6 := rfl
                    have h_ := sh_1 (t := 6) (cnr86 (by omega)) (by decide) rfl
                    rw [h_.1]; omega)⟩⟩) (Nat.le_of_ble_eq_true rfl) (Nat.le_of_ble_eq_true rfl) dX11_stepHere_77
            · have c82 : r72.toInt ≠ 0 := fun z_ => c78 (Int32.toInt_inj.mp z_)
              have i83 : iv r72 1 1 := iv_Nl c82 ir72 (by decide)
              have i84 := cnr72 c82
              refine lv_iconst (v := 5) hx hb dX11_stepHere_64 (by decide) ?_
              exact u_iret C h hr hQ (⟨⟨by decide, by decide⟩, tf73, of73, (by
                  have n_ : (5 : Int32).toInt = 5 := rfl
                  have h_ := sh_2 (t := 5) (cnr72 (by omega)) (by decide) (by decide) rfl
                  rw [h_.2]; exact n_), ⟨aa1_f73, kpu0_3f73, ipu0_3f73, (by
                  have n_ : (5 : Int32).toInt = 5 := rfl
                  have h_ := sh_2 (t := 5) (cnr72 (by omega)) (by decide) (by decide) rfl
                  rw [h_.1]; omega)⟩⟩) (Nat.le_of_ble_eq_true rfl) (Nat.le_of_ble_eq_true rfl) dX11_stepHere_65
          · have c68 : r58.toInt ≠ 0 := fun z_ => c64 (Int32.toInt_inj.mp z_)
            have i69 : iv r58 1 1 := iv_Nl c68 ir58 (by decide)
            have i70 := cnr58 c68
            refine lv_iconst (v := 4) hx hb dX11_stepHere_53 (by decide) ?_
            exact u_iret C h hr hQ (⟨⟨by decide, by decide⟩, tf59, of59, (by
                have n_ : (4 : Int32).toInt = 4 := rfl
                have h_ := sh_1 (t := 4) (cnr58 (by omega)) (by decide) rfl
                rw [h_.2]; exact n_), ⟨aa1_f59, kpu0_3f59, ipu0_3f59, (by
                have n_ : (4 : Int32).toInt = 4 := rfl
                have h_ := sh_1 (t := 4) (cnr58 (by omega)) (by decide) rfl
                rw [h_.1]; omega)⟩⟩) (Nat.le_of_ble_eq_true rfl) (Nat.le_of_ble_eq_true rfl) dX11_stepHere_54
        · have c54 : r44.toInt ≠ 0 := fun z_ => c50 (Int32.toInt_inj.mp z_)
          have i55 : iv r44 1 1 := iv_Nl c54 ir44 (by decide)
          have i56 := cnr44 c54
          refine lv_iconst (v := 3) hx hb dX11_stepHere_42 (by decide) ?_
          exact u_iret C h hr hQ (⟨⟨by decide, by decide⟩, tf45, of45, (by
              have n_ : (3 : Int32).toInt = 3 := rfl
              have h_ := sh_2 (t := 3) (cnr44 (by omega)) (by decide) (by decide) rfl
              rw [h_.2]; exact n_), ⟨aa1_f45, kpu0_3f45, ipu0_3f45, (by
              have n_ : (3 : Int32).toInt = 3 := rfl
              have h_ := sh_2 (t := 3) (cnr44 (by omega)) (by decide) (by decide) rfl
              rw [h_.1]; omega)⟩⟩) (Nat.le_of_ble_eq_true rfl) (Nat.le_of_ble_eq_true rfl) dX11_stepHere_43
      · have c40 : r30.toInt ≠ 0 := fun z_ => c36 (Int32.toInt_inj.mp z_)
        have i41 : iv r30 1 1 := iv_Nl c40 ir30 (by decide)
        have i42 := cnr30 c40
        refine lv_iconst (v := 2) hx hb dX11_stepHere_31 (by decide) ?_
        exact u_iret C h hr hQ (⟨⟨by decide, by decide⟩, tf31, of31, (by
            have n_ : (2 : Int32).toInt = 2 := rfl
            have h_ := sh_1 (t := 2) (cnr30 (by omega)) (by decide) rfl
            rw [h_.2]; exact n_), ⟨aa1_f31, kpu0_3f31, ipu0_3f31, (by
            have n_ : (2 : Int32).toInt = 2 := rfl
            have h_ := sh_1 (t := 2) (cnr30 (by omega)) (by decide) rfl
            rw [h_.1]; omega)⟩⟩) (Nat.le_of_ble_eq_true rfl) (Nat.le_of_ble_eq_true rfl) dX11_stepHere_32
    · have c26 : r16.toInt ≠ 0 := fun z_ => c22 (Int32.toInt_inj.mp z_)
      have i27 : iv r16 1 1 := iv_Nl c26 ir16 (by decide)
      have i28 := cnr16 c26
      refine lv_iconst (v := 1) hx hb dX11_stepHere_20 (by decide) ?_
      exact u_iret C h hr hQ (⟨⟨by decide, by decide⟩, tf17, of17, (by
          have n_ : (1 : Int32).toInt = 1 := rfl
          have h_ := sh_2 (t := 1) (cnr16 (by omega)) (by decide) (by decide) rfl
          rw [h_.2]; exact n_), ⟨aa1_f17, kpu0_3f17, ipu0_3f17, (by
          have n_ : (1 : Int32).toInt = 1 := rfl
          have h_ := sh_2 (t := 1) (cnr16 (by omega)) (by decide) (by decide) rfl
          rw [h_.1]; omega)⟩⟩) (Nat.le_of_ble_eq_true rfl) (Nat.le_of_ble_eq_true rfl) dX11_stepHere_21
  · have c12 : r2.toInt ≠ 0 := fun z_ => c8 (Int32.toInt_inj.mp z_)
    have i13 : iv r2 1 1 := iv_Nl c12 ir2 (by decide)
    have i14 := cnr2 c12
    refine lv_iconst (v := 0) hx hb dX11_stepHere_9 (by decide) ?_
    exact u_iret C h hr hQ (⟨⟨by decide, by decide⟩, tf3, of3, (by
        have n_ : (0 : Int32).toInt = 0 := rfl
        have h_ := sh_1 (t := 0) (cnr2 (by omega)) (by decide) rfl
        rw [h_.2]; exact n_), ⟨aa1_f3, kpu0_3f3, ipu0_3f3, (by
        have n_ : (0 : Int32).toInt = 0 := rfl
        have h_ := sh_1 (t := 0) (cnr2 (by omega)) (by decide) rfl
        rw [h_.1]; omega)⟩⟩) (Nat.le_of_ble_eq_true rfl) (Nat.le_of_ble_eq_true rfl) dX11_stepHere_10
