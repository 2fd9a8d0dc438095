theorem dX7_takes_0 : decode cX7_takes 0 = .ok (.aload_n 0, 1) := by decide +kernel
theorem dX7_takes_1 : decode cX7_takes 1 = .ok (.iload_n 1, 1) := by decide +kernel
theorem dX7_takes_2 : decode cX7_takes 2 = .ok (.invokevirtual 59, 3) := by decide +kernel
theorem dX7_takes_5 : decode cX7_takes 5 = .ok (.ifCond .eq 27, 3) := by decide +kernel
theorem dX7_takes_32 : decode cX7_takes 32 = .ok (.aload_n 0, 1) := by decide +kernel
theorem dX7_takes_33 : decode cX7_takes 33 = .ok (.iload_n 1, 1) := by decide +kernel
theorem dX7_takes_34 : decode cX7_takes 34 = .ok (.invokevirtual 63, 3) := by decide +kernel
theorem dX7_takes_37 : decode cX7_takes 37 = .ok (.ifCond .eq 32, 3) := by decide +kernel
theorem dX7_takes_69 : decode cX7_takes 69 = .ok (.aload_n 0, 1) := by decide +kernel
theorem dX7_takes_70 : decode cX7_takes 70 = .ok (.getfield 11, 3) := by decide +kernel
theorem dX7_takes_73 : decode cX7_takes 73 = .ok (.iload_n 1, 1) := by decide +kernel
theorem dX7_takes_74 : decode cX7_takes 74 = .ok (.iaload, 1) := by decide +kernel
theorem dX7_takes_75 : decode cX7_takes 75 = .ok (.bipush 59, 2) := by decide +kernel
theorem dX7_takes_77 : decode cX7_takes 77 = .ok (.if_icmp .ne 19, 3) := by decide +kernel
theorem dX7_takes_96 : decode cX7_takes 96 = .ok (.iconst 0, 1) := by decide +kernel
theorem dX7_takes_80 : decode cX7_takes 80 = .ok (.aload_n 0, 1) := by decide +kernel
theorem dX7_takes_81 : decode cX7_takes 81 = .ok (.getfield 39, 3) := by decide +kernel
theorem dX7_takes_84 : decode cX7_takes 84 = .ok (.iconst 1, 1) := by decide +kernel
theorem dX7_takes_85 : decode cX7_takes 85 = .ok (.if_icmp .eq 13, 3) := by decide +kernel
theorem dX7_takes_98 : decode cX7_takes 98 = .ok (.aload_n 0, 1) := by decide +kernel
theorem dX7_takes_99 : decode cX7_takes 99 = .ok (.iconst 3, 1) := by decide +kernel
theorem dX7_takes_100 : decode cX7_takes 100 = .ok (.putfield 39, 3) := by decide +kernel
theorem dX7_takes_103 : decode cX7_takes 103 = .ok (.iconst 1, 1) := by decide +kernel
theorem dX7_takes_88 : decode cX7_takes 88 = .ok (.aload_n 0, 1) := by decide +kernel
theorem dX7_takes_89 : decode cX7_takes 89 = .ok (.getfield 39, 3) := by decide +kernel
theorem dX7_takes_92 : decode cX7_takes 92 = .ok (.iconst 2, 1) := by decide +kernel
theorem dX7_takes_93 : decode cX7_takes 93 = .ok (.if_icmp .eq 5, 3) := by decide +kernel
theorem dX7_takes_40 : decode cX7_takes 40 = .ok (.iload_n 2, 1) := by decide +kernel
theorem dX7_takes_41 : decode cX7_takes 41 = .ok (.iload_n 1, 1) := by decide +kernel
theorem dX7_takes_42 : decode cX7_takes 42 = .ok (.iconst 1, 1) := by decide +kernel
theorem dX7_takes_43 : decode cX7_takes 43 = .ok (.iadd, 1) := by decide +kernel
theorem dX7_takes_44 : decode cX7_takes 44 = .ok (.if_icmp .ne 23, 3) := by decide +kernel
theorem dX7_takes_67 : decode cX7_takes 67 = .ok (.iconst 0, 1) := by decide +kernel
theorem dX7_takes_47 : decode cX7_takes 47 = .ok (.aload_n 0, 1) := by decide +kernel
theorem dX7_takes_48 : decode cX7_takes 48 = .ok (.aload_n 0, 1) := by decide +kernel
theorem dX7_takes_49 : decode cX7_takes 49 = .ok (.getfield 11, 3) := by decide +kernel
theorem dX7_takes_52 : decode cX7_takes 52 = .ok (.iload_n 1, 1) := by decide +kernel
theorem dX7_takes_53 : decode cX7_takes 53 = .ok (.iaload, 1) := by decide +kernel
theorem dX7_takes_54 : decode cX7_takes 54 = .ok (.bipush 48, 2) := by decide +kernel
theorem dX7_takes_56 : decode cX7_takes 56 = .ok (.isub, 1) := by decide +kernel
theorem dX7_takes_57 : decode cX7_takes 57 = .ok (.invokevirtual 76, 3) := by decide +kernel
theorem w_511 : Cond.methodLink "QuarterWalks$Tape" 76 yX7_takesNumber ∈ wAll := wI2 176 (by decide +kernel) (by decide +kernel)
theorem w_7 : Cond.selects yX7_takesNumber.cls yX7_takesNumber yX7_takesNumber ∈ wAll := wIn 7 (by decide +kernel) (by decide +kernel)
theorem mk_X7_takesNumber : mk yX7_takesNumber 1 := ⟨by decide +kernel, w_97⟩
theorem w_513 : Cond.instanceMethod yX7_takesNumber ∈ wAll := wI2 178 (by decide +kernel) (by decide +kernel)
theorem w_514 : Cond.code yX7_takesNumber cX7_takesNumber 2 (some .boolean) ∈ wAll := wI2 179 (by decide +kernel) (by decide +kernel)
theorem dX7_takes_60 : decode cX7_takes 60 = .ok (.ifCond .eq 7, 3) := by decide +kernel
theorem dX7_takes_63 : decode cX7_takes 63 = .ok (.iconst 1, 1) := by decide +kernel
theorem dX7_takes_64 : decode cX7_takes 64 = .ok (.goto 4, 3) := by decide +kernel
theorem dX7_takes_8 : decode cX7_takes 8 = .ok (.aload_n 0, 1) := by decide +kernel
theorem dX7_takes_9 : decode cX7_takes 9 = .ok (.getfield 39, 3) := by decide +kernel
theorem dX7_takes_12 : decode cX7_takes 12 = .ok (.iconst 3, 1) := by decide +kernel
theorem dX7_takes_13 : decode cX7_takes 13 = .ok (.if_icmp .ne 12, 3) := by decide +kernel
theorem dX7_takes_25 : decode cX7_takes 25 = .ok (.aload_n 0, 1) := by decide +kernel
theorem dX7_takes_26 : decode cX7_takes 26 = .ok (.iload_n 1, 1) := by decide +kernel
theorem dX7_takes_27 : decode cX7_takes 27 = .ok (.iload_n 2, 1) := by decide +kernel
theorem dX7_takes_28 : decode cX7_takes 28 = .ok (.invokevirtual 73, 3) := by decide +kernel
theorem w_463 : Cond.methodLink "QuarterWalks$Tape" 73 yX7_takesStep ∈ wAll := wI2 128 (by decide +kernel) (by decide +kernel)
theorem w_5 : Cond.selects yX7_takesStep.cls yX7_takesStep yX7_takesStep ∈ wAll := wIn 5 (by decide +kernel) (by decide +kernel)
theorem mk_X7_takesStep : mk yX7_takesStep 2 := ⟨by decide +kernel, w_97⟩
theorem w_465 : Cond.instanceMethod yX7_takesStep ∈ wAll := wI2 130 (by decide +kernel) (by decide +kernel)
theorem w_466 : Cond.code yX7_takesStep cX7_takesStep 4 (some .boolean) ∈ wAll := wI2 131 (by decide +kernel) (by decide +kernel)
theorem dX7_takes_16 : decode cX7_takes 16 = .ok (.aload_n 0, 1) := by decide +kernel
theorem dX7_takes_17 : decode cX7_takes 17 = .ok (.iload_n 1, 1) := by decide +kernel
theorem dX7_takes_18 : decode cX7_takes 18 = .ok (.iload_n 2, 1) := by decide +kernel
theorem dX7_takes_19 : decode cX7_takes 19 = .ok (.invokevirtual 70, 3) := by decide +kernel
theorem w_459 : Cond.methodLink "QuarterWalks$Tape" 70 yX7_takesFrom ∈ wAll := wI2 124 (by decide +kernel) (by decide +kernel)
theorem w_4 : Cond.selects yX7_takesFrom.cls yX7_takesFrom yX7_takesFrom ∈ wAll := wIn 4 (by decide +kernel) (by decide +kernel)
theorem mk_X7_takesFrom : mk yX7_takesFrom 2 := ⟨by decide +kernel, w_97⟩
theorem w_461 : Cond.instanceMethod yX7_takesFrom ∈ wAll := wI2 126 (by decide +kernel) (by decide +kernel)
theorem w_462 : Cond.code yX7_takesFrom cX7_takesFrom 3 (some .boolean) ∈ wAll := wI2 127 (by decide +kernel) (by decide +kernel)
theorem dX7_takes_22 : decode cX7_takes 22 = .ok (.goto 9, 3) := by decide +kernel
theorem dX7_takes_97 : decode cX7_takes 97 = .ok (.ireturn, 1) := by decide +kernel
theorem dX7_takes_104 : decode cX7_takes 104 = .ok (.ireturn, 1) := by decide +kernel
theorem dX7_takes_68 : decode cX7_takes 68 = .ok (.ireturn, 1) := by decide +kernel
theorem dX7_takes_31 : decode cX7_takes 31 = .ok (.ireturn, 1) := by decide +kernel
abbrev rm_s_X7_takesX : Room := { frames := 6, cells := 0, slots := 0, locals := 132 }
set_option maxRecDepth 100000 in
set_option maxHeartbeats 4000000 in
theorem s_X7_takesX (l : Launch) (D : va_G) (G : Nat → Nat) (b0 : Nat) (τ : Nat → Nat) (f : hM) (t : TI G 9 τ f) (u0 : Nat) (hu0 : τ u0 = 11) (u1 : Int32) (hu1 : iv u1 0 199) (u2 : Int32) (hu2 : iv u2 1 200) (ln : Int32) (hln : iv ln 0 200) (k_u0_0 : atp f u0 (fd 0 (.int ln))) (tq : Nat) (htq : τ tq = 13) (k_u0_1 : atp f u0 (fd 1 (.ref tq))) (wq : Nat) (hwq : τ wq = 14) (k_u0_2 : atp f u0 (fd 2 (.ref wq))) (sx : Int32) (hsx : iv sx 0 9) (k_u0_3 : atp f u0 (fd 3 (.int sx))) (sy : Int32) (hsy : iv sy 0 9) (k_u0_4 : atp f u0 (fd 4 (.int sy))) (bh : Int32) (hbh : iv bh 0 6) (k_u0_5 : atp f u0 (fd 5 (.int bh))) (la : Int32) (hla : iv la 0 7) (k_u0_6 : atp f u0 (fd 6 (.int la))) (rt : Nat → Int32) (hRtq : atp f tq (eqc (.inl (G 1, 200, .inl rt)))) (ww : Nat → Int32) (hRwq : atp f wq (eqc (.inl (G 1, 8, .inl ww)))) (ete : u2.toInt.toNat = te (tb rt) ln.toInt.toNat u1.toInt.toNat)  (hr0 : u1.toInt < u2.toInt) : mI l yX7_takes cX7_takes 3 (.boolean) rm_s_X7_takesX D G b0 f [.ref u0, .int u1, .int u2] (fun r f1 => iv r 0 1 ∧ TI G 9 τ f1 ∧ Fr [11, 14, 11004, 11005, 11006, 11007] τ f f1 ∧ (∃ (bh1 : Int32) (la1 : Int32) (sx1 : Int32) (sy1 : Int32) (ww1 : Nat → Int32), (atp f1 u0 (fd 5 (.int bh1)) ∧ iv bh1 0 6) ∧ (atp f1 u0 (fd 6 (.int la1)) ∧ iv la1 0 7) ∧ (atp f1 u0 (fd 3 (.int sx1)) ∧ iv sx1 0 9) ∧ (atp f1 u0 (fd 4 (.int sy1)) ∧ iv sy1 0 9) ∧ atp f1 wq (eqc (.inl (G 1, 8, .inl ww1))) ∧ (∀ w : Nat → Int, (∀ k : Nat, k < 8 → (ww k).toInt = w k) → (r.toInt ≠ 0 → ∃ w1 : Nat → Int, (∀ k : Nat, k < 8 → (ww1 k).toInt = w1 k) ∧ tr1 (tb rt) ln.toInt.toNat u1.toInt.toNat bh.toInt w la.toInt.toNat sx.toInt sy.toInt = some (bh1.toInt, w1, la1.toInt.toNat, sx1.toInt, sy1.toInt)) ∧ (r.toInt = 0 → tr1 (tb rt) ln.toInt.toNat u1.toInt.toNat bh.toInt w la.toInt.toNat sx.toInt sy.toInt = none))) ∧ FX [u0, wq] f f1) := by
  refine met2 (own := RX7) (by decide) rfl (Nat.le_of_ble_eq_true rfl) ?_
  intro p e s m args below meth c ls Q hQ C hr hini hl h
  have hl : lv_has ls 3 [(0, .ref u0), (1, .int u1), (2, .int u2)] := hl
  obtain ⟨hx, hb, hml, hown, hts, hE0, hlk⟩ := id C
  have o := Fr.rf [11, 14, 11004, 11005, 11006, 11007] τ f
  have hfx := FX.rf [u0, wq] f
  refine lv_aload_n hx hb dX7_takes_0 rfl (lv_at hl 0 rfl) ?_
  refine lv_iload_n hx hb dX7_takes_1 rfl (lv_at hl 1 rfl) ?_
  obtain ⟨_, r1⟩ := t_rec t hu0 (by decide) wf_11
  refine k_i (r_V C h hl (As := [.int u1]) (rest := []) (s_X7_isLetterX l D G b0 τ f t u0 hu0 u1 hu1 tq htq k_u0_1 rt hRtq) r1 (Cn := RX7) (T := TX7) (N := 7) rfl rfl mk_X7_isLetter w_443 w_445 w_1 w_446 ⟨Nat.le_of_ble_eq_true rfl, Nat.le_of_ble_eq_true rfl⟩ rfl (Nat.le_of_ble_eq_true rfl) ⟨Nat.le_of_ble_eq_true rfl, Nat.le_of_ble_eq_true rfl⟩ rfl dX7_takes_2) h (fun r2 f3 H locs p4 h => ?_)
  obtain ⟨ir2, tf3, ogf3, cnr2, czr2⟩ := p4
  have egf3 := Fr.nil2 ogf3
  subst egf3
  refine lv_if_eq (tgt := 32) hx hb dX7_takes_5 (by decide) (fun c5 => ?_) (fun c5 => ?_)
  · have c6 : r2.toInt = 0 := congrArg Int32.toInt c5
    have i7 : iv r2 0 0 := iv_Q c6 ir2 (iv_k (x := 0) (k := 0) rfl) (by decide)
    have i8 := czr2 c6
    refine lv_aload_n hx hb dX7_takes_32 rfl (lv_at hl 0 rfl) ?_
    refine lv_iload_n hx hb dX7_takes_33 rfl (lv_at hl 1 rfl) ?_
    obtain ⟨_, r12⟩ := t_rec t hu0 (by decide) wf_11
    refine k_i (r_V C h hl (As := [.int u1]) (rest := []) (s_X7_isDigitX l D G b0 τ f t u0 hu0 u1 hu1 tq htq k_u0_1 rt hRtq) r12 (Cn := RX7) (T := TX7) (N := 7) rfl rfl mk_X7_isDigit w_448 w_450 w_2 w_451 ⟨Nat.le_of_ble_eq_true rfl, Nat.le_of_ble_eq_true rfl⟩ rfl (Nat.le_of_ble_eq_true rfl) ⟨Nat.le_of_ble_eq_true rfl, Nat.le_of_ble_eq_true rfl⟩ rfl dX7_takes_34) h (fun r13 f14 H locs p15 h => ?_)
    obtain ⟨ir13, tf14, ogf14, cnr13, czr13⟩ := p15
    have egf14 := Fr.nil2 ogf14
    subst egf14
    refine lv_if_eq (tgt := 69) hx hb dX7_takes_37 (by decide) (fun c16 => ?_) (fun c16 => ?_)
    · have c17 : r13.toInt = 0 := congrArg Int32.toInt c16
      have i18 : iv r13 0 0 := iv_Q c17 ir13 (iv_k (x := 0) (k := 0) rfl) (by decide)
      have i19 := czr13 c17
      refine lv_aload_n hx hb dX7_takes_69 rfl (lv_at hl 0 rfl) ?_
      refine t_getfd C h t hu0 (by decide) wf_11 (v := .ref tq) k_u0_1 fl_X7_11 dX7_takes_70 ?_
      refine lv_iload_n hx hb dX7_takes_73 rfl (lv_at hl 1 rfl) ?_
      refine e_iald C h t htq (by decide) wf_13 hRtq (iv_in hu1 (by decide)) dX7_takes_74 (fun z23 ez23 iz23 => ?_)
      have mz23 := congrArg Int32.toInt ez23
      have qz23 : tb rt u1.toInt.toNat = z23.toInt := mz23.symm
      refine lv_bipush (v := 59) hx hb dX7_takes_75 (by decide) ?_
      refine lv_icmp_ne (tgt := 96) hx hb dX7_takes_77 (by decide) (fun c24 => ?_) (fun c24 => ?_)
      · have c25 : z23.toInt ≠ 59 := fun z_ => c24 (Int32.toInt_inj.mp z_)
        refine lv_iconst (v := 0) hx hb dX7_takes_96 (by decide) ?_
        exact u_zret C h hr hQ ⟨by decide, by decide⟩ (⟨⟨by decide, by decide⟩, t, o, ⟨bh, la, sx, sy, ww, ⟨k_u0_5, hbh⟩, ⟨k_u0_6, hla⟩, ⟨k_u0_3, hsx⟩, ⟨k_u0_4, hsy⟩, hRwq, (fun w hw => by
            exact ⟨fun z_ => absurd z_ (by decide), fun _ => tr_else (by omega) (by omega) (by omega)⟩)⟩, hfx⟩) (Nat.le_of_ble_eq_true rfl) (Nat.le_of_ble_eq_true rfl) dX7_takes_97
      · have c26 : z23.toInt = 59 := congrArg Int32.toInt c24
        have i27 : iv z23 59 59 := iv_Q c26 iz23 (iv_k (x := 59) (k := 59) rfl) (by decide)
        refine lv_aload_n hx hb dX7_takes_80 rfl (lv_at hl 0 rfl) ?_
        refine t_getfd C h t hu0 (by decide) wf_11 (v := .int bh) k_u0_5 fl_X7_39 dX7_takes_81 ?_
        refine lv_iconst (v := 1) hx hb dX7_takes_84 (by decide) ?_
        refine lv_icmp_eq (tgt := 98) hx hb dX7_takes_85 (by decide) (fun c28 => ?_) (fun c28 => ?_)
        · have c29 : bh.toInt = 1 := congrArg Int32.toInt c28
          have i30 : iv bh 1 1 := iv_Q c29 hbh (iv_k (x := 1) (k := 1) rfl) (by decide)
          refine lv_aload_n hx hb dX7_takes_98 rfl (lv_at hl 0 rfl) ?_
          refine lv_iconst (v := 3) hx hb dX7_takes_99 (by decide) ?_
          refine t_put C h t o hu0 (by decide) (by decide) (by decide) wf_11 fw_11 (k := 5) rfl flw_X7_39 (Or.inr ⟨_, _, _, rfl, rfl⟩) (v := .int 3) rfl rfl ⟨_, rfl, ⟨by decide, by decide⟩⟩ dX7_takes_100 (fun f32 H locs h tf32 of32 hq ha_ hn_ hk_ => ?_)
          have k33 := hk_ 0 _ (by decide) k_u0_0
          have k34 := hk_ 1 _ (by decide) k_u0_1
          have k35 := hk_ 2 _ (by decide) k_u0_2
          have k36 := hk_ 3 _ (by decide) k_u0_3
          have k37 := hk_ 4 _ (by decide) k_u0_4
          have k39 := hk_ 6 _ (by decide) k_u0_6
          have k40 := atp.tg hRtq hq htq (by decide)
          have k41 := atp.tg hRwq hq hwq (by decide)
          have k42 := FX.up hfx hn_ (by simp)
          have k43 := ha_
          refine lv_iconst (v := 1) hx hb dX7_takes_103 (by decide) ?_
          exact u_zret C h hr hQ ⟨by decide, by decide⟩ (⟨⟨by decide, by decide⟩, tf32, of32, ⟨3, la, sx, sy, ww, ⟨k43, ⟨by decide, by decide⟩⟩, ⟨k39, hla⟩, ⟨k36, hsx⟩, ⟨k37, hsy⟩, k41, (fun w hw => by
              exact ⟨fun _ => ⟨w, hw, tr_semi (by omega) (by omega)⟩, fun z_ => absurd z_ (by decide)⟩)⟩, k42⟩) (Nat.le_of_ble_eq_true rfl) (Nat.le_of_ble_eq_true rfl) dX7_takes_104
        · have c31 : bh.toInt ≠ 1 := fun z_ => c28 (Int32.toInt_inj.mp z_)
          refine lv_aload_n hx hb dX7_takes_88 rfl (lv_at hl 0 rfl) ?_
          refine t_getfd C h t hu0 (by decide) wf_11 (v := .int bh) k_u0_5 fl_X7_39 dX7_takes_89 ?_
          refine lv_iconst (v := 2) hx hb dX7_takes_92 (by decide) ?_
          refine lv_icmp_eq (tgt := 98) hx hb dX7_takes_93 (by decide) (fun c44 => ?_) (fun c44 => ?_)
          · have c45 : bh.toInt = 2 := congrArg Int32.toInt c44
            have i46 : iv bh 2 2 := iv_Q c45 hbh (iv_k (x := 2) (k := 2) rfl) (by decide)
            refine lv_aload_n hx hb dX7_takes_98 rfl (lv_at hl 0 rfl) ?_
            refine lv_iconst (v := 3) hx hb dX7_takes_99 (by decide) ?_
            refine t_put C h t o hu0 (by decide) (by decide) (by decide) wf_11 fw_11 (k := 5) rfl flw_X7_39 (Or.inr ⟨_, _, _, rfl, rfl⟩) (v := .int 3) rfl rfl ⟨_, rfl, ⟨by decide, by decide⟩⟩ dX7_takes_100 (fun f48 H locs h tf48 of48 hq ha_ hn_ hk_ => ?_)
            have k49 := hk_ 0 _ (by decide) k_u0_0
            have k50 := hk_ 1 _ (by decide) k_u0_1
            have k51 := hk_ 2 _ (by decide) k_u0_2
            have k52 := hk_ 3 _ (by decide) k_u0_3
            have k53 := hk_ 4 _ (by decide) k_u0_4
            have k55 := hk_ 6 _ (by decide) k_u0_6
            have k56 := atp.tg hRtq hq htq (by decide)
            have k57 := atp.tg hRwq hq hwq (by decide)
            have k58 := FX.up hfx hn_ (by simp)
            have k59 := ha_
            refine lv_iconst (v := 1) hx hb dX7_takes_103 (by decide) ?_
            exact u_zret C h hr hQ ⟨by decide, by decide⟩ (⟨⟨by decide, by decide⟩, tf48, of48, ⟨3, la, sx, sy, ww, ⟨k59, ⟨by decide, by decide⟩⟩, ⟨k55, hla⟩, ⟨k52, hsx⟩, ⟨k53, hsy⟩, k57, (fun w hw => by
                exact ⟨fun _ => ⟨w, hw, tr_semi (by omega) (by omega)⟩, fun z_ => absurd z_ (by decide)⟩)⟩, k58⟩) (Nat.le_of_ble_eq_true rfl) (Nat.le_of_ble_eq_true rfl) dX7_takes_104
          · have c47 : bh.toInt ≠ 2 := fun z_ => c44 (Int32.toInt_inj.mp z_)
            refine lv_iconst (v := 0) hx hb dX7_takes_96 (by decide) ?_
            exact u_zret C h hr hQ ⟨by decide, by decide⟩ (⟨⟨by decide, by decide⟩, t, o, ⟨bh, la, sx, sy, ww, ⟨k_u0_5, hbh⟩, ⟨k_u0_6, hla⟩, ⟨k_u0_3, hsx⟩, ⟨k_u0_4, hsy⟩, hRwq, (fun w hw => by
                exact ⟨fun z_ => absurd z_ (by decide), fun _ => tr_else (by omega) (by omega) (by omega)⟩)⟩, hfx⟩) (Nat.le_of_ble_eq_true rfl) (Nat.le_of_ble_eq_true rfl) dX7_takes_97
    · have c20 : r13.toInt ≠ 0 := fun z_ => c16 (Int32.toInt_inj.mp z_)
      have i21 : iv r13 1 1 := iv_Nl c20 ir13 (by decide)
      have i22 := cnr13 c20
      refine lv_iload_n hx hb dX7_takes_40 rfl (lv_at hl 2 rfl) ?_
      refine lv_iload_n hx hb dX7_takes_41 rfl (lv_at hl 1 rfl) ?_
      refine lv_iconst (v := 1) hx hb dX7_takes_42 (by decide) ?_
      refine i_addk hx hb dX7_takes_43 hu1 (k := 1) rfl (lo := 1) (hi := 200) (by decide) (fun z60 ez60 mz60 iz60 => ?_)
      refine lv_icmp_ne (tgt := 67) hx hb dX7_takes_44 (by decide) (fun c61 => ?_) (fun c61 => ?_)
      · have c62 : u2.toInt ≠ z60.toInt := fun z_ => c61 (Int32.toInt_inj.mp z_)
        refine lv_iconst (v := 0) hx hb dX7_takes_67 (by decide) ?_
        exact u_zret C h hr hQ ⟨by decide, by decide⟩ (⟨⟨by decide, by decide⟩, t, o, ⟨bh, la, sx, sy, ww, ⟨k_u0_5, hbh⟩, ⟨k_u0_6, hla⟩, ⟨k_u0_3, hsx⟩, ⟨k_u0_4, hsy⟩, hRwq, (fun w hw => by
            exact ⟨fun z_ => absurd z_ (by decide), fun _ => tr_numN (by omega) (by omega)⟩)⟩, hfx⟩) (Nat.le_of_ble_eq_true rfl) (Nat.le_of_ble_eq_true rfl) dX7_takes_68
      · have c63 : u2.toInt = z60.toInt := congrArg Int32.toInt c61
        refine lv_aload_n hx hb dX7_takes_47 rfl (lv_at hl 0 rfl) ?_
        refine lv_aload_n hx hb dX7_takes_48 rfl (lv_at hl 0 rfl) ?_
        refine t_getfd C h t hu0 (by decide) wf_11 (v := .ref tq) k_u0_1 fl_X7_11 dX7_takes_49 ?_
        refine lv_iload_n hx hb dX7_takes_52 rfl (lv_at hl 1 rfl) ?_
        refine e_iald C h t htq (by decide) wf_13 hRtq (iv_in hu1 (by decide)) dX7_takes_53 (fun z64 ez64 iz64 => ?_)
        have mz64 := congrArg Int32.toInt ez64
        have qz64 : tb rt u1.toInt.toNat = z64.toInt := mz64.symm
        have i65 : iv z64 48 57 := ⟨by omega, by omega⟩
        refine lv_bipush (v := 48) hx hb dX7_takes_54 (by decide) ?_
        refine i_subk hx hb dX7_takes_56 i65 (k := 48) rfl (lo := 0) (hi := 9) (by decide) (fun z66 ez66 mz66 iz66 => ?_)
        obtain ⟨_, r67⟩ := t_rec t hu0 (by decide) wf_11
        refine k_i (r_V C h hl (As := [.int z66]) (rest := []) (s_X7_takesNumberX l D G b0 τ f t u0 hu0 z66 iz66 wq hwq k_u0_2 sx hsx k_u0_3 sy hsy k_u0_4 bh hbh k_u0_5 la hla k_u0_6 ww hRwq) r67 (Cn := RX7) (T := TX7) (N := 7) rfl rfl mk_X7_takesNumber w_511 w_513 w_7 w_514 ⟨Nat.le_of_ble_eq_true rfl, Nat.le_of_ble_eq_true rfl⟩ rfl (Nat.le_of_ble_eq_true rfl) ⟨Nat.le_of_ble_eq_true rfl, Nat.le_of_ble_eq_true rfl⟩ rfl dX7_takes_57) h (fun r68 f69 H locs p70 h => ?_)
        obtain ⟨ir68, tf69, ogf69, cnr68, czr68, ⟨sx1_f69, kpu0_3f69, ipu0_3f69, rpu0_3f69⟩, ⟨sy1_f69, kpu0_4f69, ipu0_4f69, rpu0_4f69⟩, ⟨bh1_f69, kpu0_5f69, ipu0_5f69, rpu0_5f69⟩, ⟨ww1_f69, kRwqf69, pRwqf69⟩, fxf69⟩ := p70
        have of69 : Fr [11, 14, 11004, 11005, 11006, 11007] τ f f69 := Fr.tr o ogf69 (by decide) (by decide)
        have k71 := atp.fk k_u0_0 ogf69 hu0 (by decide) (by decide)
        have k72 := atp.fk k_u0_1 ogf69 hu0 (by decide) (by decide)
        have k73 := atp.fk k_u0_2 ogf69 hu0 (by decide) (by decide)
        have k74 := atp.fk k_u0_6 ogf69 hu0 (by decide) (by decide)
        have k75 := atp.fr hRtq ogf69 htq (by decide)
        have k76 := FX.tr hfx fxf69 (by simp)
        refine lv_if_eq (tgt := 67) hx hb dX7_takes_60 (by decide) (fun c77 => ?_) (fun c77 => ?_)
        · have c78 : r68.toInt = 0 := congrArg Int32.toInt c77
          have i79 : iv r68 0 0 := iv_Q c78 ir68 (iv_k (x := 0) (k := 0) rfl) (by decide)
          have i80 := czr68 c78
          refine lv_iconst (v := 0) hx hb dX7_takes_67 (by decide) ?_
          exact u_zret C h hr hQ ⟨by decide, by decide⟩ (⟨⟨by decide, by decide⟩, tf69, of69, ⟨bh1_f69, la, sx1_f69, sy1_f69, ww1_f69, ⟨kpu0_5f69, ipu0_5f69⟩, ⟨k74, hla⟩, ⟨kpu0_3f69, ipu0_3f69⟩, ⟨kpu0_4f69, ipu0_4f69⟩, kRwqf69, (fun w hw => by
              have he : te (tb rt) ln.toInt.toNat u1.toInt.toNat = u1.toInt.toNat + 1 := by omega
              rw [tr_num (by omega) he]
              exact ⟨fun z_ => absurd z_ (by decide), fun _ => by rw [if_neg (by omega), if_neg (by omega), if_neg (by omega)]⟩)⟩, k76⟩) (Nat.le_of_ble_eq_true rfl) (Nat.le_of_ble_eq_true rfl) dX7_takes_68
        · have c81 : r68.toInt ≠ 0 := fun z_ => c77 (Int32.toInt_inj.mp z_)
          have i82 : iv r68 1 1 := iv_Nl c81 ir68 (by decide)
          have i83 := cnr68 c81
          refine lv_iconst (v := 1) hx hb dX7_takes_63 (by decide) ?_
          refine lv_goto (tgt := 68) hx hb dX7_takes_64 (by decide) ?_
          exact u_zret C h hr hQ ⟨by decide, by decide⟩ (⟨⟨by decide, by decide⟩, tf69, of69, ⟨bh1_f69, la, sx1_f69, sy1_f69, ww1_f69, ⟨kpu0_5f69, ipu0_5f69⟩, ⟨k74, hla⟩, ⟨kpu0_3f69, ipu0_3f69⟩, ⟨kpu0_4f69, ipu0_4f69⟩, kRwqf69, (fun w hw => by
              have he : te (tb rt) ln.toInt.toNat u1.toInt.toNat = u1.toInt.toNat + 1 := by omega
              rw [tr_num (by omega) he]
              refine ⟨fun _ => ?_, fun z_ => absurd z_ (by decide)⟩
              by_cases q1 : bh.toInt = 1
              · refine ⟨upi w la.toInt.toNat (tb rt u1.toInt.toNat - 48), fun k hk => ?_, ?_⟩
                · rw [pRwqf69 k]; by_cases q_ : k = la.toInt.toNat
                  · rw [if_pos ⟨by omega, q_⟩, upi_at q_]; omega
                  · rw [if_neg (fun y_ => q_ y_.2), upi_off q_]; exact hw k hk
                · rw [if_pos (by omega), rpu0_5f69.1 (by omega), rpu0_3f69.2 (by omega), rpu0_4f69.2 (by omega)]
              · have hk0 : ∀ k : Nat, k < 8 → (ww1_f69 k).toInt = w k := fun k hk => by rw [pRwqf69 k, if_neg (fun y_ => q1 y_.1.1)]; exact hw k hk
                refine ⟨w, hk0, ?_⟩
                by_cases q4 : bh.toInt = 4
                · rw [if_neg (by omega), if_pos q4, rpu0_5f69.2.1 q4, rpu0_3f69.1 q4, rpu0_4f69.2 (by omega)]; exact congrArg (fun z_ => some (5, w, la.toInt.toNat, z_, sy.toInt)) (by omega)
                · rw [if_neg (by omega), if_neg q4, if_pos (by omega), rpu0_5f69.2.2.1 (by omega), rpu0_3f69.2 q4, rpu0_4f69.1 (by omega)]; exact congrArg (fun z_ => some (6, w, la.toInt.toNat, sx.toInt, z_)) (by omega))⟩, k76⟩) (Nat.le_of_ble_eq_true rfl) (Nat.le_of_ble_eq_true rfl) dX7_takes_68
  · have c9 : r2.toInt ≠ 0 := fun z_ => c5 (Int32.toInt_inj.mp z_)
    have i10 : iv r2 1 1 := iv_Nl c9 ir2 (by decide)
    have i11 := cnr2 c9
    refine lv_aload_n hx hb dX7_takes_8 rfl (lv_at hl 0 rfl) ?_
    refine t_getfd C h t hu0 (by decide) wf_11 (v := .int bh) k_u0_5 fl_X7_39 dX7_takes_9 ?_
    refine lv_iconst (v := 3) hx hb dX7_takes_12 (by decide) ?_
    refine lv_icmp_ne (tgt := 25) hx hb dX7_takes_13 (by decide) (fun c84 => ?_) (fun c84 => ?_)
    · have c85 : bh.toInt ≠ 3 := fun z_ => c84 (Int32.toInt_inj.mp z_)
      refine lv_aload_n hx hb dX7_takes_25 rfl (lv_at hl 0 rfl) ?_
      refine lv_iload_n hx hb dX7_takes_26 rfl (lv_at hl 1 rfl) ?_
      refine lv_iload_n hx hb dX7_takes_27 rfl (lv_at hl 2 rfl) ?_
      obtain ⟨_, r88⟩ := t_rec t hu0 (by decide) wf_11
      refine k_i (r_V C h hl (As := [.int u1, .int u2]) (rest := []) (s_X7_takesStepX l D G b0 τ f t u0 hu0 u1 hu1 u2 hu2 tq htq k_u0_1 wq hwq k_u0_2 bh hbh k_u0_5 la hla k_u0_6 rt hRtq ww hRwq (by omega)) r88 (Cn := RX7) (T := TX7) (N := 7) rfl rfl mk_X7_takesStep w_463 w_465 w_5 w_466 ⟨Nat.le_of_ble_eq_true rfl, Nat.le_of_ble_eq_true rfl⟩ rfl (Nat.le_of_ble_eq_true rfl) ⟨Nat.le_of_ble_eq_true rfl, Nat.le_of_ble_eq_true rfl⟩ rfl dX7_takes_28) h (fun r89 f90 H locs p91 h => ?_)
      obtain ⟨ir89, tf90, ogf90, cnr89, czr89, ⟨bh1_f90, kpu0_5f90, ipu0_5f90, rpu0_5f90⟩, ⟨la1_f90, kpu0_6f90, ipu0_6f90, rpu0_6f90⟩, ⟨ww1_f90, kRwqf90, pRwqf90⟩, fxf90⟩ := p91
      have of90 : Fr [11, 14, 11004, 11005, 11006, 11007] τ f f90 := Fr.tr o ogf90 (by decide) (by decide)
      have k92 := atp.fk k_u0_0 ogf90 hu0 (by decide) (by decide)
      have k93 := atp.fk k_u0_1 ogf90 hu0 (by decide) (by decide)
      have k94 := atp.fk k_u0_2 ogf90 hu0 (by decide) (by decide)
      have k95 := atp.fk k_u0_3 ogf90 hu0 (by decide) (by decide)
      have k96 := atp.fk k_u0_4 ogf90 hu0 (by decide) (by decide)
      have k97 := atp.fr hRtq ogf90 htq (by decide)
      have k98 := FX.tr hfx fxf90 (by simp)
      exact u_zret C h hr hQ ir89 (⟨ir89, tf90, of90, ⟨bh1_f90, la1_f90, sx, sy, ww1_f90, ⟨kpu0_5f90, ipu0_5f90⟩, ⟨kpu0_6f90, ipu0_6f90⟩, ⟨k95, hsx⟩, ⟨k96, hsy⟩, kRwqf90, (fun w hw => by
          have eS : ∀ j : Nat, j < 8 → tb ww j = w j := hw
          have hS := stp_iv (tb rt) u1.toInt.toNat (te (tb rt) ln.toInt.toNat u1.toInt.toNat)
          have eo : okS (tb rt) u1.toInt.toNat (te (tb rt) ln.toInt.toNat u1.toInt.toNat) bh.toInt (tb ww) ↔ okS (tb rt) u1.toInt.toNat (te (tb rt) ln.toInt.toNat u1.toInt.toNat) bh.toInt w := by unfold okS; rw [eS _ (by omega)]
          refine ⟨fun z_ => ?_, fun z_ => ?_⟩
          · have ho := cnr89 z_; rw [ete] at ho
            refine ⟨upi w (stpn (tb rt) u1.toInt.toNat (te (tb rt) ln.toInt.toNat u1.toInt.toNat)).toNat 1, fun k hk => ?_, ?_⟩
            · rw [pRwqf90 k, ete]; by_cases q_ : k = (stpn (tb rt) u1.toInt.toNat (te (tb rt) ln.toInt.toNat u1.toInt.toNat)).toNat
              · rw [if_pos ⟨ho, q_⟩, upi_at q_]; rfl
              · rw [if_neg (fun y_ => q_ y_.2), upi_off q_]; exact hw k hk
            · rw [tr_step (by omega) (by omega) (eo.mp ho)]
              have h5 := rpu0_5f90.1 (cnr89 z_); have h6 := rpu0_6f90.1 (cnr89 z_); rw [ete] at h6
              rw [h5, h6]
          · have ho := czr89 z_; rw [ete] at ho
            exact tr_stepN (by omega) (by omega) (fun y_ => ho (eo.mpr y_)))⟩, k98⟩) (Nat.le_of_ble_eq_true rfl) (Nat.le_of_ble_eq_true rfl) dX7_takes_31
    · have c86 : bh.toInt = 3 := congrArg Int32.toInt c84
      have i87 : iv bh 3 3 := iv_Q c86 hbh (iv_k (x := 3) (k := 3) rfl) (by decide)
      refine lv_aload_n hx hb dX7_takes_16 rfl (lv_at hl 0 rfl) ?_
      refine lv_iload_n hx hb dX7_takes_17 rfl (lv_at hl 1 rfl) ?_
      refine lv_iload_n hx hb dX7_takes_18 rfl (lv_at hl 2 rfl) ?_
      obtain ⟨_, r99⟩ := t_rec t hu0 (by decide) wf_11
      refine k_i (r_V C h hl (As := [.int u1, .int u2]) (rest := []) (s_X7_takesFromX l D G b0 τ f t u0 hu0 u1 hu1 u2 hu2 tq htq k_u0_1 bh (iv_w i87 (by decide)) k_u0_5 rt hRtq (by omega)) r99 (Cn := RX7) (T := TX7) (N := 7) rfl rfl mk_X7_takesFrom w_459 w_461 w_4 w_462 ⟨Nat.le_of_ble_eq_true rfl, Nat.le_of_ble_eq_true rfl⟩ rfl (Nat.le_of_ble_eq_true rfl) ⟨Nat.le_of_ble_eq_true rfl, Nat.le_of_ble_eq_true rfl⟩ rfl dX7_takes_19) h (fun r100 f101 H locs p102 h => ?_)
      obtain ⟨ir100, tf101, ogf101, cnr100, czr100, ⟨bh1_f101, kpu0_5f101, ipu0_5f101, rpu0_5f101⟩, fxf101⟩ := p102
      have of101 : Fr [11, 14, 11004, 11005, 11006, 11007] τ f f101 := Fr.tr o ogf101 (by decide) (by decide)
      have k103 := atp.fk k_u0_0 ogf101 hu0 (by decide) (by decide)
      have k104 := atp.fk k_u0_1 ogf101 hu0 (by decide) (by decide)
      have k105 := atp.fk k_u0_2 ogf101 hu0 (by decide) (by decide)
      have k106 := atp.fk k_u0_3 ogf101 hu0 (by decide) (by decide)
      have k107 := atp.fk k_u0_4 ogf101 hu0 (by decide) (by decide)
      have k108 := atp.fk k_u0_6 ogf101 hu0 (by decide) (by decide)
      have k109 := atp.fr hRtq ogf101 htq (by decide)
      have k110 := atp.fr hRwq ogf101 hwq (by decide)
      have k111 := FX.tr hfx fxf101 (by simp)
      refine lv_goto (tgt := 31) hx hb dX7_takes_22 (by decide) ?_
      exact u_zret C h hr hQ ir100 (⟨ir100, tf101, of101, ⟨bh1_f101, la, sx, sy, ww, ⟨kpu0_5f101, ipu0_5f101⟩, ⟨k108, hla⟩, ⟨k106, hsx⟩, ⟨k107, hsy⟩, k110, (fun w hw => by
          rw [ete] at *
          refine ⟨fun z_ => ⟨w, hw, ?_⟩, fun z_ => ?_⟩
          · rw [tr_from (by omega) (by omega) (by rw [← ete]; exact cnr100 z_), rpu0_5f101.1 (cnr100 z_)]
          · exact tr_fromN (by omega) (by omega) (by rw [← ete]; exact czr100 z_))⟩, k111⟩) (Nat.le_of_ble_eq_true rfl) (Nat.le_of_ble_eq_true rfl) dX7_takes_31
