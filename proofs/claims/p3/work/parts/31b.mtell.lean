theorem dX11_fault_0 : decode cX11_fault 0 = .ok (.aload_n 0, 1) := by decide +kernel
theorem dX11_fault_1 : decode cX11_fault 1 = .ok (.iconst 0, 1) := by decide +kernel
theorem dX11_fault_2 : decode cX11_fault 2 = .ok (.putfield 75, 3) := by decide +kernel
theorem dX11_fault_5 : decode cX11_fault 5 = .ok (.aload_n 0, 1) := by decide +kernel
theorem dX11_fault_6 : decode cX11_fault 6 = .ok (.invokevirtual 152, 3) := by decide +kernel
theorem w_1549 : Cond.methodLink "QuarterWalksModel" 152 yX11_reads ∈ wAll := wIn 1549 (by decide +kernel) (by decide +kernel)
theorem w_38 : Cond.selects yX11_reads.cls yX11_reads yX11_reads ∈ wAll := wIn 38 (by decide +kernel) (by decide +kernel)
theorem mk_X11_reads : mk yX11_reads 0 := ⟨by decide +kernel, w_110⟩
theorem w_1551 : Cond.instanceMethod yX11_reads ∈ wAll := wIn 1551 (by decide +kernel) (by decide +kernel)
theorem w_1552 : Cond.code yX11_reads cX11_reads 2 (some .int) ∈ wAll := wIn 1552 (by decide +kernel) (by decide +kernel)
theorem dX11_fault_9 : decode cX11_fault 9 = .ok (.ireturn, 1) := by decide +kernel
theorem dX11_tell_0 : decode cX11_tell 0 = .ok (.aload_n 0, 1) := by decide +kernel
theorem dX11_tell_1 : decode cX11_tell 1 = .ok (.iconst 0, 1) := by decide +kernel
theorem dX11_tell_2 : decode cX11_tell 2 = .ok (.putfield 75, 3) := by decide +kernel
theorem dX11_tell_5 : decode cX11_tell 5 = .ok (.aload_n 0, 1) := by decide +kernel
theorem dX11_tell_6 : decode cX11_tell 6 = .ok (.invokevirtual 152, 3) := by decide +kernel
theorem dX11_tell_9 : decode cX11_tell 9 = .ok (.iconst (-1), 1) := by decide +kernel
theorem dX11_tell_10 : decode cX11_tell 10 = .ok (.if_icmp .eq 9, 3) := by decide +kernel
theorem dX11_tell_19 : decode cX11_tell 19 = .ok (.aload_n 0, 1) := by decide +kernel
theorem dX11_tell_20 : decode cX11_tell 20 = .ok (.getfield 17, 3) := by decide +kernel
theorem dX11_tell_23 : decode cX11_tell 23 = .ok (.bipush 80, 2) := by decide +kernel
theorem dX11_tell_25 : decode cX11_tell 25 = .ok (.iaload, 1) := by decide +kernel
theorem dX11_tell_26 : decode cX11_tell 26 = .ok (.bipush 8, 2) := by decide +kernel
theorem dX11_tell_28 : decode cX11_tell 28 = .ok (.if_icmp .ne 9, 3) := by decide +kernel
theorem dX11_tell_37 : decode cX11_tell 37 = .ok (.aload_n 0, 1) := by decide +kernel
theorem dX11_tell_38 : decode cX11_tell 38 = .ok (.iconst 0, 1) := by decide +kernel
theorem dX11_tell_39 : decode cX11_tell 39 = .ok (.putfield 79, 3) := by decide +kernel
theorem dX11_tell_42 : decode cX11_tell 42 = .ok (.aload_n 0, 1) := by decide +kernel
theorem dX11_tell_43 : decode cX11_tell 43 = .ok (.invokevirtual 168, 3) := by decide +kernel
theorem dX11_tell_31 : decode cX11_tell 31 = .ok (.aload_n 0, 1) := by decide +kernel
theorem dX11_tell_32 : decode cX11_tell 32 = .ok (.iconst 2, 1) := by decide +kernel
theorem dX11_tell_33 : decode cX11_tell 33 = .ok (.invokevirtual 165, 3) := by decide +kernel
theorem dX11_tell_13 : decode cX11_tell 13 = .ok (.aload_n 0, 1) := by decide +kernel
theorem dX11_tell_14 : decode cX11_tell 14 = .ok (.iconst 0, 1) := by decide +kernel
theorem dX11_tell_15 : decode cX11_tell 15 = .ok (.invokevirtual 165, 3) := by decide +kernel
theorem dX11_tell_46 : decode cX11_tell 46 = .ok (.ireturn, 1) := by decide +kernel
theorem dX11_tell_36 : decode cX11_tell 36 = .ok (.ireturn, 1) := by decide +kernel
theorem dX11_tell_18 : decode cX11_tell 18 = .ok (.ireturn, 1) := by decide +kernel
abbrev rm_s_X11_faultX : Room := { frames := 8, cells := 0, slots := 0, locals := 172 }
set_option maxRecDepth 100000 in
set_option maxHeartbeats 4000000 in
theorem s_X11_faultX (l : Launch) (D : va_G) (G : Nat → Nat) (b0 : Nat) (τ : Nat → Nat) (f : hM) (t : TI G 9 τ f) (u0 : Nat) (hu0 : τ u0 = 60) (ln : Int32) (hln : iv ln 0 200) (k_u0_2 : atp f u0 (fd 2 (.int ln))) (aa : Int32) (haa : iv aa 0 200) (k_u0_3 : atp f u0 (fd 3 (.int aa))) (tq : Nat) (htq : τ tq = 61) (k_u0_1 : atp f u0 (fd 1 (.ref tq))) (fa : Int32) (hfa : iv fa (-1) 200) (k_u0_4 : atp f u0 (fd 4 (.int fa))) (dq : Nat) (hdq : τ dq = 62) (k_u0_5 : atp f u0 (fd 5 (.ref dq))) (rt : Nat → Int32) (hRtq : atp f tq (eqc (.inl (G 0, 200, .inl rt)))) (rd : Nat → Int32) (hRdq : atp f dq (eqc (.inl (G 1, 10, .inl rd)))) (B : Nat → Int) (hB : ∀ k : Nat, (k : Int) < ln.toInt → (rt k).toInt = sg (B k) ∧ 0 ≤ B k ∧ B k ≤ 255)  : mI l yX11_fault cX11_fault 1 (.int) rm_s_X11_faultX D G b0 f [.ref u0] (fun r f1 => iv r (-1) 200 ∧ TI G 9 τ f1 ∧ Fr [60, 62, 60001, 60004, 60005] τ f f1 ∧ (r.toInt = (run B ln.toInt.toNat 0 0 (fun _ => 0) 0 0 0).1)) := by
  refine met2 (own := RX11) (by decide) rfl (Nat.le_of_ble_eq_true rfl) ?_
  intro p e s m args below meth c ls Q hQ C hr hini hl h
  have hl : lv_has ls 1 [(0, .ref u0)] := hl
  obtain ⟨hx, hb, hml, hown, hts, hE0, hlk⟩ := id C
  have o := Fr.rf [60, 62, 60001, 60004, 60005] τ f
  refine lv_aload_n hx hb dX11_fault_0 rfl (lv_at hl 0 rfl) ?_
  refine lv_iconst (v := 0) hx hb dX11_fault_1 (by decide) ?_
  refine t_put C h t o hu0 (by decide) (by decide) (by decide) wf_60 fw_60 (k := 0) rfl flw_X11_75 (Or.inr ⟨_, _, _, rfl, rfl⟩) (v := .int 0) rfl rfl ⟨_, rfl, ⟨by decide, by decide⟩⟩ dX11_fault_2 (fun f1 H locs h tf1 of1 hq ha_ hn_ hk_ => ?_)
  have k2 := hk_ 2 _ (by decide) k_u0_2
  have k3 := hk_ 3 _ (by decide) k_u0_3
  have k4 := hk_ 1 _ (by decide) k_u0_1
  have k5 := hk_ 4 _ (by decide) k_u0_4
  have k6 := hk_ 5 _ (by decide) k_u0_5
  have k7 := atp.tg hRtq hq htq (by decide)
  have k8 := atp.tg hRdq hq hdq (by decide)
  have k9 := ha_
  refine lv_aload_n hx hb dX11_fault_5 rfl (lv_at hl 0 rfl) ?_
  obtain ⟨_, r10⟩ := t_rec tf1 hu0 (by decide) wf_60
  refine k_i (r_V C h hl (As := []) (rest := []) (s_X11_readsX l D G b0 τ f1 tf1 u0 hu0 ln hln k2 aa haa k3 tq htq k4 fa hfa k5 dq hdq k6 rt k7 rd k8 B hB) r10 (Cn := RX11) (T := TX11) (N := 32) rfl rfl mk_X11_reads w_1549 w_1551 w_38 w_1552 ⟨Nat.le_of_ble_eq_true rfl, Nat.le_of_ble_eq_true rfl⟩ rfl (Nat.le_of_ble_eq_true rfl) ⟨Nat.le_of_ble_eq_true rfl, Nat.le_of_ble_eq_true rfl⟩ rfl dX11_fault_6) h (fun r11 f12 H locs p13 h => ?_)
  obtain ⟨ir11, tf12, ogf12, ⟨aa1_f12, fa1_f12, rd1_f12, ⟨kpu0_3f12, ipu0_3f12⟩, ⟨kpu0_4f12, ipu0_4f12⟩, kRdqf12, jtf12⟩⟩ := p13
  have of12 : Fr [60, 62, 60001, 60004, 60005] τ f f12 := Fr.tr of1 ogf12 (by decide) (by decide)
  have k14 := atp.fk k2 ogf12 hu0 (by decide) (by decide)
  have k15 := atp.fk k4 ogf12 hu0 (by decide) (by decide)
  have k16 := atp.fk k6 ogf12 hu0 (by decide) (by decide)
  have k17 := atp.fr k7 ogf12 htq (by decide)
  exact u_iret C h hr hQ (⟨ir11, tf12, of12, jtf12.1⟩) (Nat.le_of_ble_eq_true rfl) (Nat.le_of_ble_eq_true rfl) dX11_fault_9
abbrev rm_s_X11_tellX : Room := { frames := 8, cells := 0, slots := 0, locals := 172 }
set_option maxRecDepth 100000 in
set_option maxHeartbeats 4000000 in
theorem s_X11_tellX (l : Launch) (D : va_G) (G : Nat → Nat) (b0 : Nat) (τ : Nat → Nat) (f : hM) (t : TI G 9 τ f) (u0 : Nat) (hu0 : τ u0 = 60) (ln : Int32) (hln : iv ln 0 200) (k_u0_2 : atp f u0 (fd 2 (.int ln))) (aa : Int32) (haa : iv aa 0 200) (k_u0_3 : atp f u0 (fd 3 (.int aa))) (tq : Nat) (htq : τ tq = 61) (k_u0_1 : atp f u0 (fd 1 (.ref tq))) (fa : Int32) (hfa : iv fa (-1) 200) (k_u0_4 : atp f u0 (fd 4 (.int fa))) (ac : Int32) (hac : iv ac 0 12) (k_u0_10 : atp f u0 (fd 10 (.int ac))) (bq : Nat) (hbq : τ bq = 63) (k_u0_6 : atp f u0 (fd 6 (.ref bq))) (kq : Nat) (hkq : τ kq = 65) (k_u0_8 : atp f u0 (fd 8 (.ref kq))) (dq : Nat) (hdq : τ dq = 62) (k_u0_5 : atp f u0 (fd 5 (.ref dq))) (rt : Nat → Int32) (hRtq : atp f tq (eqc (.inl (G 0, 200, .inl rt)))) (rb : Nat → Int32) (hRbq : atp f bq (eqc (.inl (G 1, 81, .inl rb)))) (rk : Nat → Int32) (hRkq : atp f kq (eqc (.inl (G 1, 972, .inl rk)))) (rd : Nat → Int32) (hRdq : atp f dq (eqc (.inl (G 1, 10, .inl rd)))) (B : Nat → Int) (hB : ∀ k : Nat, (k : Int) < ln.toInt → (rt k).toInt = sg (B k) ∧ 0 ≤ B k ∧ B k ≤ 255)  : mI l yX11_tell cX11_tell 1 (.int) rm_s_X11_tellX D G b0 f [.ref u0] (fun r f1 => iv r (-1) 7 ∧ TI G 9 τ f1 ∧ Fr [60, 62, 63, 65, 66, 60001, 60003, 60004, 60005, 60011] τ f f1 ∧ (((((run B ln.toInt.toNat 0 0 (fun _ => 0) 0 0 0).1 = -1 ∧ (rb 80).toInt ≤ 7)) → r.toInt = (rb 80).toInt) ∧ (¬ (((run B ln.toInt.toNat 0 0 (fun _ => 0) 0 0 0).1 = -1 ∧ (rb 80).toInt ≤ 7)) → r.toInt = -1)) ∧ (∃ ac1 : Int32, atp f1 u0 (fd 10 (.int ac1)) ∧ iv ac1 0 12 ∧ ((((run B ln.toInt.toNat 0 0 (fun _ => 0) 0 0 0).1 = -1 ∧ (rb 80).toInt ≤ 7)) → ((ac.toInt = 12 → ac1.toInt = 12) ∧ (ac.toInt ≠ 12 → ac1.toInt = ac.toInt + 1))) ∧ (¬ (((run B ln.toInt.toNat 0 0 (fun _ => 0) 0 0 0).1 = -1 ∧ (rb 80).toInt ≤ 7)) → ac1.toInt = ac.toInt)) ∧ (∃ ln1 : Int32, atp f1 u0 (fd 2 (.int ln1)) ∧ iv ln1 0 200 ∧ ((((run B ln.toInt.toNat 0 0 (fun _ => 0) 0 0 0).1 = -1 ∧ (rb 80).toInt ≤ 7)) → ln1.toInt = 0) ∧ (¬ (((run B ln.toInt.toNat 0 0 (fun _ => 0) 0 0 0).1 = -1 ∧ (rb 80).toInt ≤ 7)) → ln1.toInt = ln.toInt)) ∧ (∃ rb1 : Nat → Int32, atp f1 bq (eqc (.inl (G 1, 81, .inl rb1))) ∧ (∀ k : Nat, k < 81 → rb1 k = if ((run B ln.toInt.toNat 0 0 (fun _ => 0) 0 0 0).1 = -1 ∧ (rb 80).toInt ≤ 7) then cm rb (tl (run B ln.toInt.toNat 0 0 (fun _ => 0) 0 0 0)) k else rb k)) ∧ (∃ rk1 : Nat → Int32, atp f1 kq (eqc (.inl (G 1, 972, .inl rk1))) ∧ (∀ k : Nat, k < 972 → rk1 k = if ((run B ln.toInt.toNat 0 0 (fun _ => 0) 0 0 0).1 = -1 ∧ (rb 80).toInt ≤ 7) then kp rk rb ac.toInt k else rk k))) := by
  refine met2 (own := RX11) (by decide) rfl (Nat.le_of_ble_eq_true rfl) ?_
  intro p e s m args below meth c ls Q hQ C hr hini hl h
  have hl : lv_has ls 1 [(0, .ref u0)] := hl
  obtain ⟨hx, hb, hml, hown, hts, hE0, hlk⟩ := id C
  have o := Fr.rf [60, 62, 63, 65, 66, 60001, 60003, 60004, 60005, 60011] τ f
  refine lv_aload_n hx hb dX11_tell_0 rfl (lv_at hl 0 rfl) ?_
  refine lv_iconst (v := 0) hx hb dX11_tell_1 (by decide) ?_
  refine t_put C h t o hu0 (by decide) (by decide) (by decide) wf_60 fw_60 (k := 0) rfl flw_X11_75 (Or.inr ⟨_, _, _, rfl, rfl⟩) (v := .int 0) rfl rfl ⟨_, rfl, ⟨by decide, by decide⟩⟩ dX11_tell_2 (fun f1 H locs h tf1 of1 hq ha_ hn_ hk_ => ?_)
  have k2 := hk_ 2 _ (by decide) k_u0_2
  have k3 := hk_ 3 _ (by decide) k_u0_3
  have k4 := hk_ 1 _ (by decide) k_u0_1
  have k5 := hk_ 4 _ (by decide) k_u0_4
  have k6 := hk_ 10 _ (by decide) k_u0_10
  have k7 := hk_ 6 _ (by decide) k_u0_6
  have k8 := hk_ 8 _ (by decide) k_u0_8
  have k9 := hk_ 5 _ (by decide) k_u0_5
  have k10 := atp.tg hRtq hq htq (by decide)
  have k11 := atp.tg hRbq hq hbq (by decide)
  have k12 := atp.tg hRkq hq hkq (by decide)
  have k13 := atp.tg hRdq hq hdq (by decide)
  have k14 := ha_
  refine lv_aload_n hx hb dX11_tell_5 rfl (lv_at hl 0 rfl) ?_
  obtain ⟨_, r15⟩ := t_rec tf1 hu0 (by decide) wf_60
  refine k_i (r_V C h hl (As := []) (rest := []) (s_X11_readsX l D G b0 τ f1 tf1 u0 hu0 ln hln k2 aa haa k3 tq htq k4 fa hfa k5 dq hdq k9 rt k10 rd k13 B hB) r15 (Cn := RX11) (T := TX11) (N := 32) rfl rfl mk_X11_reads w_1549 w_1551 w_38 w_1552 ⟨Nat.le_of_ble_eq_true rfl, Nat.le_of_ble_eq_true rfl⟩ rfl (Nat.le_of_ble_eq_true rfl) ⟨Nat.le_of_ble_eq_true rfl, Nat.le_of_ble_eq_true rfl⟩ rfl dX11_tell_6) h (fun r16 f17 H locs p18 h => ?_)
  obtain ⟨ir16, tf17, ogf17, ⟨aa1_f17, fa1_f17, rd1_f17, ⟨kpu0_3f17, ipu0_3f17⟩, ⟨kpu0_4f17, ipu0_4f17⟩, kRdqf17, jtf17⟩⟩ := p18
  have of17 : Fr [60, 62, 63, 65, 66, 60001, 60003, 60004, 60005, 60011] τ f f17 := Fr.tr of1 ogf17 (by decide) (by decide)
  have k19 := atp.fk k2 ogf17 hu0 (by decide) (by decide)
  have k20 := atp.fk k4 ogf17 hu0 (by decide) (by decide)
  have k21 := atp.fk k6 ogf17 hu0 (by decide) (by decide)
  have k22 := atp.fk k7 ogf17 hu0 (by decide) (by decide)
  have k23 := atp.fk k8 ogf17 hu0 (by decide) (by decide)
  have k24 := atp.fk k9 ogf17 hu0 (by decide) (by decide)
  have k25 := atp.fr k10 ogf17 htq (by decide)
  have k26 := atp.fr k11 ogf17 hbq (by decide)
  have k27 := atp.fr k12 ogf17 hkq (by decide)
  refine lv_iconst (v := -1) hx hb dX11_tell_9 (by decide) ?_
  refine lv_icmp_eq (tgt := 19) hx hb dX11_tell_10 (by decide) (fun c28 => ?_) (fun c28 => ?_)
  · have c29 : r16.toInt = (-1) := congrArg Int32.toInt c28
    have i30 : iv r16 (-1) (-1) := iv_Q c29 ir16 (iv_k (x := (-1)) (k := (-1)) rfl) (by decide)
    refine lv_aload_n hx hb dX11_tell_19 rfl (lv_at hl 0 rfl) ?_
    refine t_getfd C h tf17 hu0 (by decide) wf_60 (v := .ref bq) k22 fl_X11_17 dX11_tell_20 ?_
    refine lv_bipush (v := 80) hx hb dX11_tell_23 (by decide) ?_
    refine e_bk80 C h tf17 hbq (by decide) wf_63 k26 dX11_tell_25 (fun z33 ez33 iz33 => ?_)
    have mz33 := congrArg Int32.toInt ez33
    refine lv_bipush (v := 8) hx hb dX11_tell_26 (by decide) ?_
    refine lv_icmp_ne (tgt := 37) hx hb dX11_tell_28 (by decide) (fun c34 => ?_) (fun c34 => ?_)
    · have c35 : z33.toInt ≠ 8 := fun z_ => c34 (Int32.toInt_inj.mp z_)
      have i36 : iv z33 0 7 := iv_Nh c35 iz33 (by decide)
      refine lv_aload_n hx hb dX11_tell_37 rfl (lv_at hl 0 rfl) ?_
      refine lv_iconst (v := 0) hx hb dX11_tell_38 (by decide) ?_
      refine t_put C h tf17 of17 hu0 (by decide) (by decide) (by decide) wf_60 fw_60 (k := 2) rfl flw_X11_79 (Or.inr ⟨_, _, _, rfl, rfl⟩) (v := .int 0) rfl rfl ⟨_, rfl, ⟨by decide, by decide⟩⟩ dX11_tell_39 (fun f39 H locs h tf39 of39 hq ha_ hn_ hk_ => ?_)
      have k41 := hk_ 1 _ (by decide) k20
      have k42 := hk_ 10 _ (by decide) k21
      have k43 := hk_ 6 _ (by decide) k22
      have k44 := hk_ 8 _ (by decide) k23
      have k45 := hk_ 5 _ (by decide) k24
      have k46 := atp.tg k25 hq htq (by decide)
      have k47 := atp.tg k26 hq hbq (by decide)
      have k48 := atp.tg k27 hq hkq (by decide)
      have k49 := hk_ 3 _ (by decide) kpu0_3f17
      have k50 := hk_ 4 _ (by decide) kpu0_4f17
      have k51 := atp.tg kRdqf17 hq hdq (by decide)
      have k52 := ha_
      refine lv_aload_n hx hb dX11_tell_42 rfl (lv_at hl 0 rfl) ?_
      obtain ⟨_, r53⟩ := t_rec tf39 hu0 (by decide) wf_60
      refine k_i (r_V C h hl (As := []) (rest := []) (s_X11_comesX l D G b0 τ f39 tf39 u0 hu0 ac hac k42 bq hbq k43 kq hkq k44 dq hdq k45 rb k47 rk k48 rd1_f17 k51 (jtf17.2 (by omega)).2.2.2 (by omega)) r53 (Cn := RX11) (T := TX11) (N := 32) rfl rfl mk_X11_comes w_1608 w_1610 w_49 w_1611 ⟨Nat.le_of_ble_eq_true rfl, Nat.le_of_ble_eq_true rfl⟩ rfl (Nat.le_of_ble_eq_true rfl) ⟨Nat.le_of_ble_eq_true rfl, Nat.le_of_ble_eq_true rfl⟩ rfl dX11_tell_43) h (fun r54 f55 H locs p56 h => ?_)
      obtain ⟨ir54, tf55, ogf55, x0r54, ⟨ac1_f55, kpu0_10f55, ipu0_10f55, rpu0_10f55⟩, ⟨rb1_f55, kRbqf55, pRbqf55⟩, ⟨rk1_f55, kRkqf55, pRkqf55⟩⟩ := p56
      have of55 : Fr [60, 62, 63, 65, 66, 60001, 60003, 60004, 60005, 60011] τ f f55 := Fr.tr of39 ogf55 (by decide) (by decide)
      have k57 := atp.fk k41 ogf55 hu0 (by decide) (by decide)
      have k58 := atp.fk k43 ogf55 hu0 (by decide) (by decide)
      have k59 := atp.fk k44 ogf55 hu0 (by decide) (by decide)
      have k60 := atp.fk k45 ogf55 hu0 (by decide) (by decide)
      have k61 := atp.fr k46 ogf55 htq (by decide)
      have k62 := atp.fk k49 ogf55 hu0 (by decide) (by decide)
      have k63 := atp.fk k50 ogf55 hu0 (by decide) (by decide)
      have k64 := atp.fr k51 ogf55 hdq (by decide)
      have k65 := atp.fk k52 ogf55 hu0 (by decide) (by decide)
      exact u_iret C h hr hQ (⟨ir54, tf55, of55, ⟨fun _ => (by omega), fun z_ => (z_ ⟨by have := jtf17.1; omega, by omega⟩).elim⟩, ⟨ac1_f55, kpu0_10f55, (iv_w ipu0_10f55 (by decide)), ⟨fun _ => (by omega), fun z_ => (z_ ⟨by have := jtf17.1; omega, by omega⟩).elim⟩⟩, ⟨0, k65, ⟨by decide, by decide⟩, ⟨fun _ => rfl, fun z_ => (z_ ⟨by have := jtf17.1; omega, by omega⟩).elim⟩⟩, ⟨rb1_f55, kRbqf55, (fun k hk => by
          rw [if_pos ⟨by have := jtf17.1; omega, by omega⟩]
          have hj_ := (jtf17.2 (by omega))
          have hfd : ∀ k : Nat, k < 10 → rd1_f17 k = tl (run B ln.toInt.toNat 0 0 (fun _ => 0) 0 0 0) k := tl_row hj_.1 hj_.2.1 hj_.2.2.1
          rw [pRbqf55 k hk]; exact cme_eq hfd (by omega) k hk)⟩, ⟨rk1_f55, kRkqf55, (fun k hk => by rw [if_pos ⟨by have := jtf17.1; omega, by omega⟩]; exact pRkqf55 k hk)⟩⟩) (Nat.le_of_ble_eq_true rfl) (Nat.le_of_ble_eq_true rfl) dX11_tell_46
    · have c37 : z33.toInt = 8 := congrArg Int32.toInt c34
      have i38 : iv z33 8 8 := iv_Q c37 iz33 (iv_k (x := 8) (k := 8) rfl) (by decide)
      refine lv_aload_n hx hb dX11_tell_31 rfl (lv_at hl 0 rfl) ?_
      refine lv_iconst (v := 2) hx hb dX11_tell_32 (by decide) ?_
      obtain ⟨_, r66⟩ := t_rec tf17 hu0 (by decide) wf_60
      refine k_i (r_V C h hl (As := [.int 2]) (rest := []) (s_X11_refuse l D G b0 τ f17 tf17 u0 hu0 2 (iv_w (iv_k (x := 2) (k := 2) rfl) (by decide))) r66 (Cn := RX11) (T := TX11) (N := 32) rfl rfl mk_X11_refuse w_1604 w_1606 w_48 w_1607 ⟨Nat.le_of_ble_eq_true rfl, Nat.le_of_ble_eq_true rfl⟩ rfl (Nat.le_of_ble_eq_true rfl) ⟨Nat.le_of_ble_eq_true rfl, Nat.le_of_ble_eq_true rfl⟩ rfl dX11_tell_33) h (fun r67 f68 H locs p69 h => ?_)
      obtain ⟨ir67, tf68, ogf68⟩ := p69
      have of68 : Fr [60, 62, 63, 65, 66, 60001, 60003, 60004, 60005, 60011] τ f f68 := Fr.tr of17 ogf68 (by decide) (by decide)
      have k70 := atp.fr k19 ogf68 hu0 (by decide)
      have k71 := atp.fr k20 ogf68 hu0 (by decide)
      have k72 := atp.fr k21 ogf68 hu0 (by decide)
      have k73 := atp.fr k22 ogf68 hu0 (by decide)
      have k74 := atp.fr k23 ogf68 hu0 (by decide)
      have k75 := atp.fr k24 ogf68 hu0 (by decide)
      have k76 := atp.fr k25 ogf68 htq (by decide)
      have k77 := atp.fr k26 ogf68 hbq (by decide)
      have k78 := atp.fr k27 ogf68 hkq (by decide)
      have k79 := atp.fr kpu0_3f17 ogf68 hu0 (by decide)
      have k80 := atp.fr kpu0_4f17 ogf68 hu0 (by decide)
      have k81 := atp.fr kRdqf17 ogf68 hdq (by decide)
      exact u_iret C h hr hQ (⟨(iv_w ir67 (by decide)), tf68, of68, ⟨fun z_ => absurd z_ (by have := jtf17.1; omega), fun _ => (by omega)⟩, ⟨ac, k72, hac, ⟨fun z_ => absurd z_ (by have := jtf17.1; omega), fun _ => rfl⟩⟩, ⟨ln, k70, hln, ⟨fun z_ => absurd z_ (by have := jtf17.1; omega), fun _ => rfl⟩⟩, ⟨rb, k77, (fun k hk => by rw [if_neg (by have := jtf17.1; omega)])⟩, ⟨rk, k78, (fun k hk => by rw [if_neg (by have := jtf17.1; omega)])⟩⟩) (Nat.le_of_ble_eq_true rfl) (Nat.le_of_ble_eq_true rfl) dX11_tell_36
  · have c31 : r16.toInt ≠ (-1) := fun z_ => c28 (Int32.toInt_inj.mp z_)
    have i32 : iv r16 0 200 := iv_Nl c31 ir16 (by decide)
    refine lv_aload_n hx hb dX11_tell_13 rfl (lv_at hl 0 rfl) ?_
    refine lv_iconst (v := 0) hx hb dX11_tell_14 (by decide) ?_
    obtain ⟨_, r82⟩ := t_rec tf17 hu0 (by decide) wf_60
    refine k_i (r_V C h hl (As := [.int 0]) (rest := []) (s_X11_refuse l D G b0 τ f17 tf17 u0 hu0 0 (iv_w (iv_k (x := 0) (k := 0) rfl) (by decide))) r82 (Cn := RX11) (T := TX11) (N := 32) rfl rfl mk_X11_refuse w_1604 w_1606 w_48 w_1607 ⟨Nat.le_of_ble_eq_true rfl, Nat.le_of_ble_eq_true rfl⟩ rfl (Nat.le_of_ble_eq_true rfl) ⟨Nat.le_of_ble_eq_true rfl, Nat.le_of_ble_eq_true rfl⟩ rfl dX11_tell_15) h (fun r83 f84 H locs p85 h => ?_)
    obtain ⟨ir83, tf84, ogf84⟩ := p85
    have of84 : Fr [60, 62, 63, 65, 66, 60001, 60003, 60004, 60005, 60011] τ f f84 := Fr.tr of17 ogf84 (by decide) (by decide)
    have k86 := atp.fr k19 ogf84 hu0 (by decide)
    have k87 := atp.fr k20 ogf84 hu0 (by decide)
    have k88 := atp.fr k21 ogf84 hu0 (by decide)
    have k89 := atp.fr k22 ogf84 hu0 (by decide)
    have k90 := atp.fr k23 ogf84 hu0 (by decide)
    have k91 := atp.fr k24 ogf84 hu0 (by decide)
    have k92 := atp.fr k25 ogf84 htq (by decide)
    have k93 := atp.fr k26 ogf84 hbq (by decide)
    have k94 := atp.fr k27 ogf84 hkq (by decide)
    have k95 := atp.fr kpu0_3f17 ogf84 hu0 (by decide)
    have k96 := atp.fr kpu0_4f17 ogf84 hu0 (by decide)
    have k97 := atp.fr kRdqf17 ogf84 hdq (by decide)
    exact u_iret C h hr hQ (⟨(iv_w ir83 (by decide)), tf84, of84, ⟨fun z_ => absurd z_ (by have := jtf17.1; omega), fun _ => (by omega)⟩, ⟨ac, k88, hac, ⟨fun z_ => absurd z_ (by have := jtf17.1; omega), fun _ => rfl⟩⟩, ⟨ln, k86, hln, ⟨fun z_ => absurd z_ (by have := jtf17.1; omega), fun _ => rfl⟩⟩, ⟨rb, k93, (fun k hk => by rw [if_neg (by have := jtf17.1; omega)])⟩, ⟨rk, k94, (fun k hk => by rw [if_neg (by have := jtf17.1; omega)])⟩⟩) (Nat.le_of_ble_eq_true rfl) (Nat.le_of_ble_eq_true rfl) dX11_tell_18
