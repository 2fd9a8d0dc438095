theorem dX11_fault_0 : decode cX11_fault 0 = .ok (.aload_n 0, 1) := by decide +kernel
theorem dX11_fault_1 : decode cX11_fault 1 = .ok (.iconst 0, 1) := by decide +kernel
theorem dX11_fault_2 : decode cX11_fault 2 = .ok (.putfield 75, 3) := by decide +kernel
theorem dX11_fault_5 : decode cX11_fault 5 = .ok (.aload_n 0, 1) := by decide +kernel
theorem dX11_fault_6 : decode cX11_fault 6 = .ok (.invokevirtual 152, 3) := by decide +kernel
theorem w_1549 : Cond.methodLink "QuarterWalksModel" 152 yX11_reads ∈ wAll := wI7 14 (by decide +kernel) (by decide +kernel)
theorem w_38 : Cond.selects yX11_reads.cls yX11_reads yX11_reads ∈ wAll := wIn 38 (by decide +kernel) (by decide +kernel)
theorem mk_X11_reads : mk yX11_reads 0 := ⟨by decide +kernel, w_110⟩
theorem w_1551 : Cond.instanceMethod yX11_reads ∈ wAll := wI7 16 (by decide +kernel) (by decide +kernel)
theorem w_1552 : Cond.code yX11_reads cX11_reads 2 (some .int) ∈ wAll := wI7 17 (by decide +kernel) (by decide +kernel)
theorem dX11_fault_9 : decode cX11_fault 9 = .ok (.ireturn, 1) := by decide +kernel
theorem dX11_tell_0 : decode cX11_tell 0 = .ok (.aload_n 0, 1) := by decide +kernel
theorem dX11_tell_1 : decode cX11_tell 1 = .ok (.iconst 0, 1) := by decide +kernel
theorem dX11_tell_2 : decode cX11_tell 2 = .ok (.putfield 75, 3) := by decide +kernel
theorem dX11_tell_5 : decode cX11_tell 5 = .ok (.aload_n 0, 1) := by decide +kernel
theorem dX11_tell_6 : decode cX11_tell 6 = .ok (.invokevirtual 152, 3) := by decide +kernel
theorem dX11_tell_9 : decode cX11_tell 9 = .ok (.iconst (-1), 1) := by decide +kernel
theorem dX11_tell_10 : decode cX11_tell 10 = .ok (.if_icmp .eq 9, 3) := by decide +kernel
theorem dX11_tell_19 : decode cX11_tell 19 = .ok (.aload_n 0, 1) := by decide +kernel
theorem dX11_tell_20 : decode cX11_tell 20 = .ok (.getfield 17, 3) := by decide +kernel
theorem dX11_tell_23 : decode cX11_tell 23 = .ok (.bipush 80, 2) := by decide +kernel
theorem dX11_tell_25 : decode cX11_tell 25 = .ok (.iaload, 1) := by decide +kernel
theorem dX11_tell_26 : decode cX11_tell 26 = .ok (.bipush 8, 2) := by decide +kernel
theorem dX11_tell_28 : decode cX11_tell 28 = .ok (.if_icmp .ne 9, 3) := by decide +kernel
theorem dX11_tell_37 : decode cX11_tell 37 = .ok (.aload_n 0, 1) := by decide +kernel
theorem dX11_tell_38 : decode cX11_tell 38 = .ok (.iconst 0, 1) := by decide +kernel
theorem dX11_tell_39 : decode cX11_tell 39 = .ok (.putfield 79, 3) := by decide +kernel
theorem dX11_tell_42 : decode cX11_tell 42 = .ok (.aload_n 0, 1) := by decide +kernel
theorem dX11_tell_43 : decode cX11_tell 43 = .ok (.invokevirtual 168, 3) := by decide +kernel
theorem dX11_tell_31 : decode cX11_tell 31 = .ok (.aload_n 0, 1) := by decide +kernel
theorem dX11_tell_32 : decode cX11_tell 32 = .ok (.iconst 2, 1) := by decide +kernel
theorem dX11_tell_33 : decode cX11_tell 33 = .ok (.invokevirtual 165, 3) := by decide +kernel
theorem dX11_tell_13 : decode cX11_tell 13 = .ok (.aload_n 0, 1) := by decide +kernel
theorem dX11_tell_14 : decode cX11_tell 14 = .ok (.iconst 0, 1) := by decide +kernel
theorem dX11_tell_15 : decode cX11_tell 15 = .ok (.invokevirtual 165, 3) := by decide +kernel
theorem dX11_tell_46 : decode cX11_tell 46 = .ok (.ireturn, 1) := by decide +kernel
theorem dX11_tell_36 : decode cX11_tell 36 = .ok (.ireturn, 1) := by decide +kernel
theorem dX11_tell_18 : decode cX11_tell 18 = .ok (.ireturn, 1) := by decide +kernel
abbrev rm_s_X11_faultX : Room := { frames := 8, cells := 0, slots := 0, locals := 172 }
set_option maxRecDepth 100000 in
set_option maxHeartbeats 4000000 in
theorem s_X11_faultX (l : Launch) (D : va_G) (G : Nat → Nat) (b0 : Nat) (τ : Nat → Nat) (f : hM) (t : TI G 9 τ f) (u0 : Nat) (hu0 : τ u0 = 60) (ln : Int32) (hln : iv ln 0 200) (k_u0_2 : atp f u0 (fd 2 (.int ln))) (aa : Int32) (haa : iv aa 0 200) (k_u0_3 : atp f u0 (fd 3 (.int aa))) (tq : Nat) (htq : τ tq = 61) (k_u0_1 : atp f u0 (fd 1 (.ref tq))) (fa : Int32) (hfa : iv fa (-1) 200) (k_u0_4 : atp f u0 (fd 4 (.int fa))) (dq : Nat) (hdq : τ dq = 62) (k_u0_5 : atp f u0 (fd 5 (.ref dq))) (rt : Nat → Int32) (hRtq : atp f tq (eqc (.inl (G 0, 200, .inl rt)))) (rd : Nat → Int32) (hRdq : atp f dq (eqc (.inl (G 1, 10, .inl rd)))) (B : Nat → Int) (hB : ∀ k : Nat, (k : Int) < ln.toInt → (rt k).toInt = sg (B k) ∧ 0 ≤ B k ∧ B k ≤ 255)  : mI l yX11_fault cX11_fault 1 (.int) rm_s_X11_faultX D G b0 f [.ref u0] (fun r f1 => iv r (-1) 200 ∧ TI G 9 τ f1 ∧ Fr [60, 62, 60001, 60004, 60005] τ f f1 ∧ (r.toInt = (run B ln.toInt.toNat 0 0 (fun _ => 0) 0 0 0).1)) := by
  refine met2 (own := RX11) (by decide) rfl (Nat.le_of_ble_eq_true rfl) ?_
  intro p e s m args below meth c ls Q hQ C hr hini hl h
  have hl : lv_has ls 1 [(0, .ref u0)] := hl
  obtain ⟨hx, hb, hml, hown, hts, hE0, hlk⟩ := id C
  have o := Fr.rf [60, 62, 60001, 60004, 60005] τ f
  refine lv_aload_n hx hb dX11_fault_0 rfl (lv_at hl 0 rfl) ?_
  refine lv_iconst (v := 0) hx hb dX11_fault_1 (by decide) ?_
  refine t_put C h t o hu0 (by decide) (by decide) (by decide) wf_60 fw_60 (k := 0) rfl flw_X11_75 (Or.inr ⟨_, _, _, rfl, rfl⟩) (v := .int 0) rfl rfl ⟨_, rfl, ⟨by decide, by decide⟩⟩ dX11_fault_2 (fun f1 H locs h tf1 of1 hq ha_ hn_ hk_ => ?_)
  have k2 := hk_ 2 _ (by decide) k_u0_2
  have k3 := hk_ 3 _ (by decide) k_u0_3
  have k4 := hk_ 1 _ (by decide) k_u0_1
  have k5 := hk_ 4 _ (by decide) k_u0_4
  have k6 := hk_ 5 _ (by decide) k_u0_5
  have k7 := atp.tg hRtq hq htq (by decide)
  have k8 := atp.tg hRdq hq hdq (by decide)
  have k9 := ha_
  refine lv_aload_n hx hb dX11_fault_5 rfl (lv_at hl 0 rfl) ?_
  obtain ⟨_, r10⟩ := t_rec tf1 hu0 (by decide) wf_60
  refine k_i (r_V C h hl (As := []) (rest := []) (s_X11_readsX l D G b0 τ f1 tf1 u0 hu0 ln hln k2 aa haa k3 tq htq k4 fa hfa k5 dq hdq k6 rt k7 rd k8 B hB) r10 (Cn := RX11) (T := TX11) (N := 32) rfl rfl mk_X11_reads w_1549 w_1551 w_38 w_1552 ⟨Nat.le_of_ble_eq_true rfl, Nat.le_of_ble_eq_true rfl⟩ rfl (Nat.le_of_ble_eq_true rfl) ⟨Nat.le_of_ble_eq_true rfl, Nat.le_of_ble_eq_true rfl⟩ rfl dX11_fault_6) h (fun r11 f12 H locs p13 h => ?_)
  obtain ⟨ir11, tf12, ogf12, ⟨aa1_f12, fa1_f12, rd1_f12, ⟨kpu0_3f12, ipu0_3f12⟩, ⟨kpu0_4f12, ipu0_4f12⟩, kRdqf12, jtf12⟩⟩ := p13
  have of12 : Fr [60, 62, 60001, 60004, 60005] τ f f12 := Fr.tr of1 ogf12 (by decide) (by decide)
  have k14 := atp.fk k2 ogf12 hu0 (by decide) (by decide)
  have k15 := atp.fk k4 ogf12 hu0 (by decide) (by decide)
  have k16 := atp.fk k6 ogf12 hu0 (by decide) (by decide)
  have k17 := atp.fr k7 ogf12 htq (by decide)
  exact u_iret C h hr hQ (⟨ir11, tf12, of12, jtf12.1⟩) (Nat.le_of_ble_eq_true rfl) (Nat.le_of_ble_eq_true rfl) dX11_fault_9
abbrev rm_s_X11_tellX : Room := { frames := 8, cells := 0, slots := 0, locals := 172 }
set_option maxRecDepth 100000 in
set_option maxHeartbeats 4000000 in
theorem s_X11_tellX (l : Launch) (D : va_G) (G : Nat → Nat) (b0 : Nat) (τ : Nat → Nat) (f : hM) (t : TI G 9 τ f) (u0 : Nat) (hu0 : τ u0 = 60) (ln : Int32) (hln : iv ln 0 200) (k_u0_2 : atp f u0 (fd 2 (.int ln))) (aa : Int32) (haa : iv aa 0 200) (k_u0_3 : atp f u0 (fd 3 (.int aa))) (tq : Nat) (htq : τ tq = 61) (k_u0_1 : atp f u0 (fd 1 (.ref tq))) (fa : Int32) (hfa : iv fa (-1) 200) (k_u0_4 : atp f u0 (fd 4 (.int fa))) (ac : Int32) (hac : iv ac 0 12) (k_u0_10 : atp f u0 (fd 10 (.int ac))) (bq : Nat) (hbq : τ bq = 63) (k_u0_6 : atp f u0 (fd 6 (.ref bq))) (kq : Nat) (hkq : τ kq = 65) (k_u0_8 : atp f u0 (fd 8 (.ref kq))) (dq : Nat) (hdq : τ dq = 62) (k_u0_5 : atp f u0 (fd 5 (.ref dq))) (fq : Nat) (hfq : τ fq = 66) (k_u0_9 : atp f u0 (fd 9 (.ref fq))) (rt : Nat → Int32) (hRtq : atp f tq (eqc (.inl (G 0, 200, .inl rt)))) (rb : Nat → Int32) (hRbq : atp f bq (eqc (.inl (G 1, 81, .inl rb)))) (rk : Nat → Int32) (hRkq : atp f kq (eqc (.inl (G 1, 972, .inl rk)))) (rd : Nat → Int32) (hRdq : atp f dq (eqc (.inl (G 1, 10, .inl rd)))) (rr : Nat → Int32) (hRfq : atp f fq (eqc (.inl (G 1, 4, .inl rr)))) (B : Nat → Int) (hB : ∀ k : Nat, (k : Int) < ln.toInt → (rt k).toInt = sg (B k) ∧ 0 ≤ B k ∧ B k ≤ 255)  : mI l yX11_tell cX11_tell 1 (.int) rm_s_X11_tellX D G b0 f [.ref u0] (fun r f1 => iv r (-1) 7 ∧ TI G 9 τ f1 ∧ Fr [60, 62, 63, 65, 66, 60001, 60003, 60004, 60005, 60011] τ f f1 ∧ (((((run B ln.toInt.toNat 0 0 (fun _ => 0) 0 0 0).1 = -1 ∧ (rb 80).toInt ≤ 7)) → r.toInt = (rb 80).toInt) ∧ (¬ (((run B ln.toInt.toNat 0 0 (fun _ => 0) 0 0 0).1 = -1 ∧ (rb 80).toInt ≤ 7)) → r.toInt = -1)) ∧ (∃ ac1 : Int32, atp f1 u0 (fd 10 (.int ac1)) ∧ iv ac1 0 12 ∧ ((((run B ln.toInt.toNat 0 0 (fun _ => 0) 0 0 0).1 = -1 ∧ (rb 80).toInt ≤ 7)) → ((ac.toInt = 12 → ac1.toInt = 12) ∧ (ac.toInt ≠ 12 → ac1.toInt = ac.toInt + 1))) ∧ (¬ (((run B ln.toInt.toNat 0 0 (fun _ => 0) 0 0 0).1 = -1 ∧ (rb 80).toInt ≤ 7)) → ac1.toInt = ac.toInt)) ∧ (∃ ln1 : Int32, atp f1 u0 (fd 2 (.int ln1)) ∧ iv ln1 0 200 ∧ ((((run B ln.toInt.toNat 0 0 (fun _ => 0) 0 0 0).1 = -1 ∧ (rb 80).toInt ≤ 7)) → ln1.toInt = 0) ∧ (¬ (((run B ln.toInt.toNat 0 0 (fun _ => 0) 0 0 0).1 = -1 ∧ (rb 80).toInt ≤ 7)) → ln1.toInt = ln.toInt)) ∧ (∃ rb1 : Nat → Int32, atp f1 bq (eqc (.inl (G 1, 81, .inl rb1))) ∧ (∀ k : Nat, k < 81 → rb1 k = if ((run B ln.toInt.toNat 0 0 (fun _ => 0) 0 0 0).1 = -1 ∧ (rb 80).toInt ≤ 7) then cm rb (tl (run B ln.toInt.toNat 0 0 (fun _ => 0) 0 0 0)) k else rb k)) ∧ (∃ rk1 : Nat → Int32, atp f1 kq (eqc (.inl (G 1, 972, .inl rk1))) ∧ (∀ k : Nat, k < 972 → rk1 k = if ((run B ln.toInt.toNat 0 0 (fun _ => 0) 0 0 0).1 = -1 ∧ (rb 80).toInt ≤ 7) then kp rk rb ac.toInt k else rk k)) ∧ (∃ rr1 : Nat → Int32, atp f1 fq (eqc (.inl (G 1, 4, .inl rr1))) ∧ (∀ k : Nat, k < 4 → rr1 k = if (k : Int) = (if ¬ (run B ln.toInt.toNat 0 0 (fun _ => 0) 0 0 0).1 = -1 then 0 else (if ¬ ((rb 80).toInt ≤ 7) then 2 else -1)) then rr k + 1 else rr k))) := by
  refine met2 (own := RX11) (by decide) rfl (Nat.le_of_ble_eq_true rfl) ?_
  intro p e s m args below meth c ls Q hQ C hr hini hl h
  have hl : lv_has ls 1 [(0, .ref u0)] := hl
  obtain ⟨hx, hb, hml, hown, hts, hE0, hlk⟩ := id C
  have o := Fr.rf [60, 62, 63, 65, 66, 60001, 60003, 60004, 60005, 60011] τ f
  refine lv_aload_n hx hb dX11_tell_0 rfl (lv_at hl 0 rfl) ?_
  refine lv_iconst (v := 0) hx hb dX11_tell_1 (by decide) ?_
  refine t_put C h t o hu0 (by decide) (by decide) (by decide) wf_60 fw_60 (k := 0) rfl flw_X11_75 (Or.inr ⟨_, _, _, rfl, rfl⟩) (v := .int 0) rfl rfl ⟨_, rfl, ⟨by decide, by decide⟩⟩ dX11_tell_2 (fun f1 H locs h tf1 of1 hq ha_ hn_ hk_ => ?_)
  have k2 := hk_ 2 _ (by decide) k_u0_2
  have k3 := hk_ 3 _ (by decide) k_u0_3
  have k4 := hk_ 1 _ (by decide) k_u0_1
  have k5 := hk_ 4 _ (by decide) k_u0_4
  have k6 := hk_ 10 _ (by decide) k_u0_10
  have k7 := hk_ 6 _ (by decide) k_u0_6
  have k8 := hk_ 8 _ (by decide) k_u0_8
  have k9 := hk_ 5 _ (by decide) k_u0_5
  have k10 := hk_ 9 _ (by decide) k_u0_9
  have k11 := atp.tg hRtq hq htq (by decide)
  have k12 := atp.tg hRbq hq hbq (by decide)
  have k13 := atp.tg hRkq hq hkq (by decide)
  have k14 := atp.tg hRdq hq hdq (by decide)
  have k15 := atp.tg hRfq hq hfq (by decide)
  have k16 := ha_
  refine lv_aload_n hx hb dX11_tell_5 rfl (lv_at hl 0 rfl) ?_
  obtain ⟨_, r17⟩ := t_rec tf1 hu0 (by decide) wf_60
  refine k_i (r_V C h hl (As := []) (rest := []) (s_X11_readsX l D G b0 τ f1 tf1 u0 hu0 ln hln k2 aa haa k3 tq htq k4 fa hfa k5 dq hdq k9 rt k11 rd k14 B hB) r17 (Cn := RX11) (T := TX11) (N := 32) rfl rfl mk_X11_reads w_1549 w_1551 w_38 w_1552 ⟨Nat.le_of_ble_eq_true rfl, Nat.le_of_ble_eq_true rfl⟩ rfl (Nat.le_of_ble_eq_true rfl) ⟨Nat.le_of_ble_eq_true rfl, Nat.le_of_ble_eq_true rfl⟩ rfl dX11_tell_6) h (fun r18 f19 H locs p20 h => ?_)
  obtain ⟨ir18, tf19, ogf19, ⟨aa1_f19, fa1_f19, rd1_f19, ⟨kpu0_3f19, ipu0_3f19⟩, ⟨kpu0_4f19, ipu0_4f19⟩, kRdqf19, jtf19⟩⟩ := p20
  have of19 : Fr [60, 62, 63, 65, 66, 60001, 60003, 60004, 60005, 60011] τ f f19 := Fr.tr of1 ogf19 (by decide) (by decide)
  have k21 := atp.fk k2 ogf19 hu0 (by decide) (by decide)
  have k22 := atp.fk k4 ogf19 hu0 (by decide) (by decide)
  have k23 := atp.fk k6 ogf19 hu0 (by decide) (by decide)
  have k24 := atp.fk k7 ogf19 hu0 (by decide) (by decide)
  have k25 := atp.fk k8 ogf19 hu0 (by decide) (by decide)
  have k26 := atp.fk k9 ogf19 hu0 (by decide) (by decide)
  have k27 := atp.fk k10 ogf19 hu0 (by decide) (by decide)
  have k28 := atp.fr k11 ogf19 htq (by decide)
  have k29 := atp.fr k12 ogf19 hbq (by decide)
  have k30 := atp.fr k13 ogf19 hkq (by decide)
  have k31 := atp.fr k15 ogf19 hfq (by decide)
  refine lv_iconst (v := -1) hx hb dX11_tell_9 (by decide) ?_
  refine lv_icmp_eq (tgt := 19) hx hb dX11_tell_10 (by decide) (fun c32 => ?_) (fun c32 => ?_)
  · have c33 : r18.toInt = (-1) := congrArg Int32.toInt c32
    have i34 : iv r18 (-1) (-1) := iv_Q c33 ir18 (iv_k (x := (-1)) (k := (-1)) rfl) (by decide)
    refine lv_aload_n hx hb dX11_tell_19 rfl (lv_at hl 0 rfl) ?_
    refine t_getfd C h tf19 hu0 (by decide) wf_60 (v := .ref bq) k24 fl_X11_17 dX11_tell_20 ?_
    refine lv_bipush (v := 80) hx hb dX11_tell_23 (by decide) ?_
    refine e_bk80 C h tf19 hbq (by decide) wf_63 k29 dX11_tell_25 (fun z37 ez37 iz37 => ?_)
    have mz37 := congrArg Int32.toInt ez37
    refine lv_bipush (v := 8) hx hb dX11_tell_26 (by decide) ?_
    refine lv_icmp_ne (tgt := 37) hx hb dX11_tell_28 (by decide) (fun c38 => ?_) (fun c38 => ?_)
    · have c39 : z37.toInt ≠ 8 := fun z_ => c38 (Int32.toInt_inj.mp z_)
      have i40 : iv z37 0 7 := iv_Nh c39 iz37 (by decide)
      refine lv_aload_n hx hb dX11_tell_37 rfl (lv_at hl 0 rfl) ?_
      refine lv_iconst (v := 0) hx hb dX11_tell_38 (by decide) ?_
      refine t_put C h tf19 of19 hu0 (by decide) (by decide) (by decide) wf_60 fw_60 (k := 2) rfl flw_X11_79 (Or.inr ⟨_, _, _, rfl, rfl⟩) (v := .int 0) rfl rfl ⟨_, rfl, ⟨by decide, by decide⟩⟩ dX11_tell_39 (fun f43 H locs h tf43 of43 hq ha_ hn_ hk_ => ?_)
      have k45 := hk_ 1 _ (by decide) k22
      have k46 := hk_ 10 _ (by decide) k23
      have k47 := hk_ 6 _ (by decide) k24
      have k48 := hk_ 8 _ (by decide) k25
      have k49 := hk_ 5 _ (by decide) k26
      have k50 := hk_ 9 _ (by decide) k27
      have k51 := atp.tg k28 hq htq (by decide)
      have k52 := atp.tg k29 hq hbq (by decide)
      have k53 := atp.tg k30 hq hkq (by decide)
      have k54 := atp.tg k31 hq hfq (by decide)
      have k55 := hk_ 3 _ (by decide) kpu0_3f19
      have k56 := hk_ 4 _ (by decide) kpu0_4f19
      have k57 := atp.tg kRdqf19 hq hdq (by decide)
      have k58 := ha_
      refine lv_aload_n hx hb dX11_tell_42 rfl (lv_at hl 0 rfl) ?_
      obtain ⟨_, r59⟩ := t_rec tf43 hu0 (by decide) wf_60
      refine k_i (r_V C h hl (As := []) (rest := []) (s_X11_comesX l D G b0 τ f43 tf43 u0 hu0 ac hac k46 bq hbq k47 kq hkq k48 dq hdq k49 rb k52 rk k53 rd1_f19 k57 (jtf19.2 (by omega)).2.2.2 (by omega)) r59 (Cn := RX11) (T := TX11) (N := 32) rfl rfl mk_X11_comes w_1608 w_1610 w_49 w_1611 ⟨Nat.le_of_ble_eq_true rfl, Nat.le_of_ble_eq_true rfl⟩ rfl (Nat.le_of_ble_eq_true rfl) ⟨Nat.le_of_ble_eq_true rfl, Nat.le_of_ble_eq_true rfl⟩ rfl dX11_tell_43) h (fun r60 f61 H locs p62 h => ?_)
      obtain ⟨ir60, tf61, ogf61, x0r60, ⟨ac1_f61, kpu0_10f61, ipu0_10f61, rpu0_10f61⟩, ⟨rb1_f61, kRbqf61, pRbqf61⟩, ⟨rk1_f61, kRkqf61, pRkqf61⟩⟩ := p62
      have of61 : Fr [60, 62, 63, 65, 66, 60001, 60003, 60004, 60005, 60011] τ f f61 := Fr.tr of43 ogf61 (by decide) (by decide)
      have k63 := atp.fk k45 ogf61 hu0 (by decide) (by decide)
      have k64 := atp.fk k47 ogf61 hu0 (by decide) (by decide)
      have k65 := atp.fk k48 ogf61 hu0 (by decide) (by decide)
      have k66 := atp.fk k49 ogf61 hu0 (by decide) (by decide)
      have k67 := atp.fk k50 ogf61 hu0 (by decide) (by decide)
      have k68 := atp.fr k51 ogf61 htq (by decide)
      have k69 := atp.fr k54 ogf61 hfq (by decide)
      have k70 := atp.fk k55 ogf61 hu0 (by decide) (by decide)
      have k71 := atp.fk k56 ogf61 hu0 (by decide) (by decide)
      have k72 := atp.fr k57 ogf61 hdq (by decide)
      have k73 := atp.fk k58 ogf61 hu0 (by decide) (by decide)
      exact u_iret C h hr hQ (⟨ir60, tf61, of61, ⟨fun _ => (by omega), fun z_ => (z_ ⟨by have := jtf19.1; omega, by omega⟩).elim⟩, ⟨ac1_f61, kpu0_10f61, (iv_w ipu0_10f61 (by decide)), ⟨fun _ => (by omega), fun z_ => (z_ ⟨by have := jtf19.1; omega, by omega⟩).elim⟩⟩, ⟨0, k73, ⟨by decide, by decide⟩, ⟨fun _ => rfl, fun z_ => (z_ ⟨by have := jtf19.1; omega, by omega⟩).elim⟩⟩, ⟨rb1_f61, kRbqf61, (fun k hk => by
          rw [if_pos ⟨by have := jtf19.1; omega, by omega⟩]
          have hj_ := (jtf19.2 (by omega))
          have hfd : ∀ k : Nat, k < 10 → rd1_f19 k = tl (run B ln.toInt.toNat 0 0 (fun _ => 0) 0 0 0) k := tl_row hj_.1 hj_.2.1 hj_.2.2.1
          rw [pRbqf61 k hk]; exact cme_eq hfd (by omega) k hk)⟩, ⟨rk1_f61, kRkqf61, (fun k hk => by rw [if_pos ⟨by have := jtf19.1; omega, by omega⟩]; exact pRkqf61 k hk)⟩, ⟨rr, k69, (bump_no (by rw [if_neg (by have := jtf19.1; omega), if_neg (by omega)]))⟩⟩) (Nat.le_of_ble_eq_true rfl) (Nat.le_of_ble_eq_true rfl) dX11_tell_46
    · have c41 : z37.toInt = 8 := congrArg Int32.toInt c38
      have i42 : iv z37 8 8 := iv_Q c41 iz37 (iv_k (x := 8) (k := 8) rfl) (by decide)
      refine lv_aload_n hx hb dX11_tell_31 rfl (lv_at hl 0 rfl) ?_
      refine lv_iconst (v := 2) hx hb dX11_tell_32 (by decide) ?_
      obtain ⟨_, r74⟩ := t_rec tf19 hu0 (by decide) wf_60
      refine k_i (r_V C h hl (As := [.int 2]) (rest := []) (s_X11_refuseX l D G b0 τ f19 tf19 u0 hu0 2 (iv_w (iv_k (x := 2) (k := 2) rfl) (by decide)) fq hfq k27 rr k31) r74 (Cn := RX11) (T := TX11) (N := 32) rfl rfl mk_X11_refuse w_1604 w_1606 w_48 w_1607 ⟨Nat.le_of_ble_eq_true rfl, Nat.le_of_ble_eq_true rfl⟩ rfl (Nat.le_of_ble_eq_true rfl) ⟨Nat.le_of_ble_eq_true rfl, Nat.le_of_ble_eq_true rfl⟩ rfl dX11_tell_33) h (fun r75 f76 H locs p77 h => ?_)
      obtain ⟨ir75, tf76, ogf76, ⟨rr1_f76, kRfqf76, pRfqf76⟩⟩ := p77
      have of76 : Fr [60, 62, 63, 65, 66, 60001, 60003, 60004, 60005, 60011] τ f f76 := Fr.tr of19 ogf76 (by decide) (by decide)
      have k78 := atp.fr k21 ogf76 hu0 (by decide)
      have k79 := atp.fr k22 ogf76 hu0 (by decide)
      have k80 := atp.fr k23 ogf76 hu0 (by decide)
      have k81 := atp.fr k24 ogf76 hu0 (by decide)
      have k82 := atp.fr k25 ogf76 hu0 (by decide)
      have k83 := atp.fr k26 ogf76 hu0 (by decide)
      have k84 := atp.fr k27 ogf76 hu0 (by decide)
      have k85 := atp.fr k28 ogf76 htq (by decide)
      have k86 := atp.fr k29 ogf76 hbq (by decide)
      have k87 := atp.fr k30 ogf76 hkq (by decide)
      have k88 := atp.fr kpu0_3f19 ogf76 hu0 (by decide)
      have k89 := atp.fr kpu0_4f19 ogf76 hu0 (by decide)
      have k90 := atp.fr kRdqf19 ogf76 hdq (by decide)
      exact u_iret C h hr hQ (⟨(iv_w ir75 (by decide)), tf76, of76, ⟨fun z_ => absurd z_ (by have := jtf19.1; omega), fun _ => (by omega)⟩, ⟨ac, k80, hac, ⟨fun z_ => absurd z_ (by have := jtf19.1; omega), fun _ => rfl⟩⟩, ⟨ln, k78, hln, ⟨fun z_ => absurd z_ (by have := jtf19.1; omega), fun _ => rfl⟩⟩, ⟨rb, k86, (fun k hk => by rw [if_neg (by have := jtf19.1; omega)])⟩, ⟨rk, k87, (fun k hk => by rw [if_neg (by have := jtf19.1; omega)])⟩, ⟨rr1_f76, kRfqf76, (bump_eq (c := 2) pRfqf76 rfl (by decide) (by rw [if_neg (by have := jtf19.1; omega), if_pos (by omega)]))⟩⟩) (Nat.le_of_ble_eq_true rfl) (Nat.le_of_ble_eq_true rfl) dX11_tell_36
  · have c35 : r18.toInt ≠ (-1) := fun z_ => c32 (Int32.toInt_inj.mp z_)
    have i36 : iv r18 0 200 := iv_Nl c35 ir18 (by decide)
    refine lv_aload_n hx hb dX11_tell_13 rfl (lv_at hl 0 rfl) ?_
    refine lv_iconst (v := 0) hx hb dX11_tell_14 (by decide) ?_
    obtain ⟨_, r91⟩ := t_rec tf19 hu0 (by decide) wf_60
    refine k_i (r_V C h hl (As := [.int 0]) (rest := []) (s_X11_refuseX l D G b0 τ f19 tf19 u0 hu0 0 (iv_w (iv_k (x := 0) (k := 0) rfl) (by decide)) fq hfq k27 rr k31) r91 (Cn := RX11) (T := TX11) (N := 32) rfl rfl mk_X11_refuse w_1604 w_1606 w_48 w_1607 ⟨Nat.le_of_ble_eq_true rfl, Nat.le_of_ble_eq_true rfl⟩ rfl (Nat.le_of_ble_eq_true rfl) ⟨Nat.le_of_ble_eq_true rfl, Nat.le_of_ble_eq_true rfl⟩ rfl dX11_tell_15) h (fun r92 f93 H locs p94 h => ?_)
    obtain ⟨ir92, tf93, ogf93, ⟨rr1_f93, kRfqf93, pRfqf93⟩⟩ := p94
    have of93 : Fr [60, 62, 63, 65, 66, 60001, 60003, 60004, 60005, 60011] τ f f93 := Fr.tr of19 ogf93 (by decide) (by decide)
    have k95 := atp.fr k21 ogf93 hu0 (by decide)
    have k96 := atp.fr k22 ogf93 hu0 (by decide)
    have k97 := atp.fr k23 ogf93 hu0 (by decide)
    have k98 := atp.fr k24 ogf93 hu0 (by decide)
    have k99 := atp.fr k25 ogf93 hu0 (by decide)
    have k100 := atp.fr k26 ogf93 hu0 (by decide)
    have k101 := atp.fr k27 ogf93 hu0 (by decide)
    have k102 := atp.fr k28 ogf93 htq (by decide)
    have k103 := atp.fr k29 ogf93 hbq (by decide)
    have k104 := atp.fr k30 ogf93 hkq (by decide)
    have k105 := atp.fr kpu0_3f19 ogf93 hu0 (by decide)
    have k106 := atp.fr kpu0_4f19 ogf93 hu0 (by decide)
    have k107 := atp.fr kRdqf19 ogf93 hdq (by decide)
    exact u_iret C h hr hQ (⟨(iv_w ir92 (by decide)), tf93, of93, ⟨fun z_ => absurd z_ (by have := jtf19.1; omega), fun _ => (by omega)⟩, ⟨ac, k97, hac, ⟨fun z_ => absurd z_ (by have := jtf19.1; omega), fun _ => rfl⟩⟩, ⟨ln, k95, hln, ⟨fun z_ => absurd z_ (by have := jtf19.1; omega), fun _ => rfl⟩⟩, ⟨rb, k103, (fun k hk => by rw [if_neg (by have := jtf19.1; omega)])⟩, ⟨rk, k104, (fun k hk => by rw [if_neg (by have := jtf19.1; omega)])⟩, ⟨rr1_f93, kRfqf93, (bump_eq (c := 0) pRfqf93 rfl (by decide) (by rw [if_pos (by have := jtf19.1; omega)]))⟩⟩) (Nat.le_of_ble_eq_true rfl) (Nat.le_of_ble_eq_true rfl) dX11_tell_18
