theorem dX11_readsStart_0 : decode cX11_readsStart 0 = .ok (.aload_n 0, 1) := by decide +kernel
theorem dX11_readsStart_1 : decode cX11_readsStart 1 = .ok (.dup, 1) := by decide +kernel
theorem dX11_readsStart_2 : decode cX11_readsStart 2 = .ok (.getfield 90, 3) := by decide +kernel
theorem dX11_readsStart_5 : decode cX11_readsStart 5 = .ok (.iconst 1, 1) := by decide +kernel
theorem dX11_readsStart_6 : decode cX11_readsStart 6 = .ok (.iadd, 1) := by decide +kernel
theorem dX11_readsStart_7 : decode cX11_readsStart 7 = .ok (.putfield 90, 3) := by decide +kernel
theorem dX11_readsStart_10 : decode cX11_readsStart 10 = .ok (.aload_n 0, 1) := by decide +kernel
theorem dX11_readsStart_11 : decode cX11_readsStart 11 = .ok (.ldc 144, 2) := by decide +kernel
theorem dX11_readsStart_13 : decode cX11_readsStart 13 = .ok (.invokevirtual 116, 3) := by decide +kernel
theorem dX11_readsStart_16 : decode cX11_readsStart 16 = .ok (.ifCond .ne 12, 3) := by decide +kernel
theorem dX11_readsStart_28 : decode cX11_readsStart 28 = .ok (.aload_n 0, 1) := by decide +kernel
theorem dX11_readsStart_29 : decode cX11_readsStart 29 = .ok (.getfield 13, 3) := by decide +kernel
theorem dX11_readsStart_32 : decode cX11_readsStart 32 = .ok (.bipush 8, 2) := by decide +kernel
theorem dX11_readsStart_34 : decode cX11_readsStart 34 = .ok (.aload_n 0, 1) := by decide +kernel
theorem dX11_readsStart_35 : decode cX11_readsStart 35 = .ok (.iconst 0, 1) := by decide +kernel
theorem dX11_readsStart_36 : decode cX11_readsStart 36 = .ok (.invokevirtual 141, 3) := by decide +kernel
theorem dX11_readsStart_39 : decode cX11_readsStart 39 = .ok (.iastore, 1) := by decide +kernel
theorem dX11_readsStart_40 : decode cX11_readsStart 40 = .ok (.aload_n 0, 1) := by decide +kernel
theorem dX11_readsStart_41 : decode cX11_readsStart 41 = .ok (.getfield 97, 3) := by decide +kernel
theorem dX11_readsStart_44 : decode cX11_readsStart 44 = .ok (.iconst (-1), 1) := by decide +kernel
theorem dX11_readsStart_45 : decode cX11_readsStart 45 = .ok (.if_icmp .ne 15, 3) := by decide +kernel
theorem dX11_readsStart_48 : decode cX11_readsStart 48 = .ok (.aload_n 0, 1) := by decide +kernel
theorem dX11_readsStart_49 : decode cX11_readsStart 49 = .ok (.getfield 13, 3) := by decide +kernel
theorem dX11_readsStart_52 : decode cX11_readsStart 52 = .ok (.bipush 9, 2) := by decide +kernel
theorem dX11_readsStart_54 : decode cX11_readsStart 54 = .ok (.aload_n 0, 1) := by decide +kernel
theorem dX11_readsStart_55 : decode cX11_readsStart 55 = .ok (.iconst 0, 1) := by decide +kernel
theorem dX11_readsStart_56 : decode cX11_readsStart 56 = .ok (.invokevirtual 141, 3) := by decide +kernel
theorem dX11_readsStart_59 : decode cX11_readsStart 59 = .ok (.iastore, 1) := by decide +kernel
theorem dX11_readsStart_19 : decode cX11_readsStart 19 = .ok (.aload_n 0, 1) := by decide +kernel
theorem dX11_readsStart_20 : decode cX11_readsStart 20 = .ok (.aload_n 0, 1) := by decide +kernel
theorem dX11_readsStart_21 : decode cX11_readsStart 21 = .ok (.getfield 90, 3) := by decide +kernel
theorem dX11_readsStart_24 : decode cX11_readsStart 24 = .ok (.invokevirtual 111, 3) := by decide +kernel
theorem dX11_readsStart_60 : decode cX11_readsStart 60 = .ok (.return_, 1) := by decide +kernel
theorem dX11_readsStart_27 : decode cX11_readsStart 27 = .ok (.return_, 1) := by decide +kernel
abbrev rm_s_X11_readsStartX : Room := { frames := 5, cells := 0, slots := 0, locals := 108 }
set_option maxRecDepth 100000 in
set_option maxHeartbeats 4000000 in
theorem s_X11_readsStartX (l : Launch) (D : va_G) (G : Nat → Nat) (b0 : Nat) (τ : Nat → Nat) (f : hM) (t : TI G 9 τ f) (u0 : Nat) (hu0 : τ u0 = 60) (ln : Int32) (hln : iv ln 0 200) (k_u0_2 : atp f u0 (fd 2 (.int ln))) (aa : Int32) (haa : iv aa 0 199) (k_u0_3 : atp f u0 (fd 3 (.int aa))) (tq : Nat) (htq : τ tq = 61) (k_u0_1 : atp f u0 (fd 1 (.ref tq))) (fa : Int32) (hfa : iv fa (-1) (-1)) (k_u0_4 : atp f u0 (fd 4 (.int fa))) (dq : Nat) (hdq : τ dq = 62) (k_u0_5 : atp f u0 (fd 5 (.ref dq))) (rt : Nat → Int32) (hRtq : atp f tq (eqc (.inl (G 0, 200, .inl rt)))) (rd : Nat → Int32) (hRdq : atp f dq (eqc (.inl (G 1, 10, .inl rd)))) (B : Nat → Int) (hB : ∀ k : Nat, (k : Int) < ln.toInt → (rt k).toInt = sg (B k) ∧ 0 ≤ B k ∧ B k ≤ 255) (bb : Int) (lb : Nat) (xx yy : Int) (w : Nat → Int) (hbb : bb = 1 ∨ bb = 2) (hal : aa.toInt < ln.toInt) (h59 : B aa.toInt.toNat = 59)  : mV l yX11_readsStart cX11_readsStart 1 rm_s_X11_readsStartX D G b0 f [.ref u0] (fun f1 => TI G 9 τ f1 ∧ Fr [60, 62, 60004, 60005] τ f f1 ∧ (∃ (aa1 : Int32) (fa1 : Int32) (rd1 : Nat → Int32), (atp f1 u0 (fd 3 (.int aa1)) ∧ iv aa1 0 200) ∧ (atp f1 u0 (fd 4 (.int fa1)) ∧ iv fa1 (-1) 200) ∧ atp f1 dq (eqc (.inl (G 1, 10, .inl rd1))) ∧ ((∀ k : Nat, k < 8 → rd1 k = rd k) ∧ (fa1.toInt = -1 → (iv (rd1 8) 0 9 ∧ iv (rd1 9) 0 9) ∧ run B ln.toInt.toNat aa1.toInt.toNat 6 w lb (rd1 8).toInt (rd1 9).toInt = run B ln.toInt.toNat aa.toInt.toNat bb w lb xx yy) ∧ (fa1.toInt ≠ -1 → (run B ln.toInt.toNat aa.toInt.toNat bb w lb xx yy).1 = fa1.toInt)))) := by
  refine met2 (own := RX11) (by decide) rfl (Nat.le_of_ble_eq_true rfl) ?_
  intro p e s m args below meth c ls Q hQ C hr hini hl h
  have hl : lv_has ls 1 [(0, .ref u0)] := hl
  obtain ⟨hx, hb, hml, hown, hts, hE0, hlk⟩ := id C
  have o := Fr.rf [60, 62, 60004, 60005] τ f
  refine lv_aload_n hx hb dX11_readsStart_0 rfl (lv_at hl 0 rfl) ?_
  refine lv_dup hx hb dX11_readsStart_1 rfl ?_
  refine t_getfd C h t hu0 (by decide) wf_60 (v := .int aa) k_u0_3 fl_X11_90 dX11_readsStart_2 ?_
  refine lv_iconst (v := 1) hx hb dX11_readsStart_5 (by decide) ?_
  refine i_addk hx hb dX11_readsStart_6 haa (k := 1) rfl (lo := 1) (hi := 200) (by decide) (fun z1 ez1 mz1 iz1 => ?_)
  refine t_put C h t o hu0 (by decide) (by decide) (by decide) wf_60 fw_60 (k := 3) rfl flw_X11_90 (Or.inr ⟨_, _, _, rfl, rfl⟩) (v := .int z1) rfl rfl ⟨_, rfl, (iv_w iz1 (by decide))⟩ dX11_readsStart_7 (fun f2 H locs h tf2 of2 hq ha_ hn_ hk_ => ?_)
  have k3 := hk_ 2 _ (by decide) k_u0_2
  have k5 := hk_ 1 _ (by decide) k_u0_1
  have k6 := hk_ 4 _ (by decide) k_u0_4
  have k7 := hk_ 5 _ (by decide) k_u0_5
  have k8 := atp.tg hRtq hq htq (by decide)
  have k9 := atp.tg hRdq hq hdq (by decide)
  have k10 := ha_
  refine lv_aload_n hx hb dX11_readsStart_10 rfl (lv_at hl 0 rfl) ?_
  refine va_ldcS hx hb hown (hE0.2.2.2.2.2.2.2.2.1 ("QuarterWalksModel", 144, "from", 8) (by decide)) dX11_readsStart_11 ?_
  obtain ⟨_, r11⟩ := t_rec tf2 hu0 (by decide) wf_60
  refine k_i (r_V C h hl (As := [.ref (G (20 + 8))]) (rest := []) (s_X11_wordX8 l D G b0 τ f2 tf2 u0 hu0 ln hln k3 z1 (iv_w iz1 (by decide)) k10 tq htq k5 rt k8 B hB) r11 (Cn := RX11) (T := TX11) (N := 32) rfl rfl mk_X11_word w_1570 w_1572 w_43 w_1573 ⟨Nat.le_of_ble_eq_true rfl, Nat.le_of_ble_eq_true rfl⟩ rfl (Nat.le_of_ble_eq_true rfl) ⟨Nat.le_of_ble_eq_true rfl, Nat.le_of_ble_eq_true rfl⟩ rfl dX11_readsStart_13) h (fun r12 f13 H locs p14 h => ?_)
  obtain ⟨ir12, tf13, ogf13, cnr12, czr12, ⟨aa1_f13, kpu0_3f13, ipu0_3f13, rpu0_3f13⟩⟩ := p14
  have of13 : Fr [60, 62, 60004, 60005] τ f f13 := Fr.tr of2 ogf13 (by decide) (by decide)
  have k15 := atp.fk k3 ogf13 hu0 (by decide) (by decide)
  have k16 := atp.fk k5 ogf13 hu0 (by decide) (by decide)
  have k17 := atp.fk k6 ogf13 hu0 (by decide) (by decide)
  have k18 := atp.fk k7 ogf13 hu0 (by decide) (by decide)
  have k19 := atp.fr k8 ogf13 htq (by decide)
  have k20 := atp.fr k9 ogf13 hdq (by decide)
  have eK21 : rn 32 32 B ln.toInt.toNat z1.toInt.toNat = (rn 32 32 B ln.toInt.toNat (aa.toInt.toNat + 1)) := by rw [show z1.toInt.toNat = (aa.toInt.toNat + 1) by omega]
  rw [eK21] at cnr12 czr12 rpu0_3f13
  refine lv_if_ne (tgt := 28) hx hb dX11_readsStart_16 (by decide) (fun c22 => ?_) (fun c22 => ?_)
  · have c23 : r12.toInt ≠ 0 := fun z_ => c22 (Int32.toInt_inj.mp z_)
    have i24 : iv r12 1 1 := iv_Nl c23 ir12 (by decide)
    have i25 := cnr12 c23
    refine lv_aload_n hx hb dX11_readsStart_28 rfl (lv_at hl 0 rfl) ?_
    refine t_getfd C h tf13 hu0 (by decide) wf_60 (v := .ref dq) k18 fl_X11_13 dX11_readsStart_29 ?_
    refine lv_bipush (v := 8) hx hb dX11_readsStart_32 (by decide) ?_
    refine lv_aload_n hx hb dX11_readsStart_34 rfl (lv_at hl 0 rfl) ?_
    refine lv_iconst (v := 0) hx hb dX11_readsStart_35 (by decide) ?_
    obtain ⟨_, r29⟩ := t_rec tf13 hu0 (by decide) wf_60
    refine k_i (r_V C h hl (As := [.int 0]) (rest := [.int 8, .ref dq]) (s_X11_digitX l D G b0 τ f13 tf13 u0 hu0 0 (iv_w (iv_k (x := 0) (k := 0) rfl) (by decide)) ln hln k15 aa1_f13 ipu0_3f13 kpu0_3f13 tq htq k16 fa (iv_w hfa (by decide)) k17 rt k19 B hB) r29 (Cn := RX11) (T := TX11) (N := 32) rfl rfl mk_X11_digit w_1591 w_1593 w_46 w_1594 ⟨Nat.le_of_ble_eq_true rfl, Nat.le_of_ble_eq_true rfl⟩ rfl (Nat.le_of_ble_eq_true rfl) ⟨Nat.le_of_ble_eq_true rfl, Nat.le_of_ble_eq_true rfl⟩ rfl dX11_readsStart_36) h (fun r30 f31 H locs p32 h => ?_)
    have n33 : (0 : Int32).toInt = 0 := rfl
    obtain ⟨ir30, tf31, ogf31, x0r30, ⟨aa1_f31, kpu0_3f31, ipu0_3f31, rpu0_3f31⟩, ⟨fa1_f31, kpu0_4f31, ipu0_4f31, rpu0_4f31⟩⟩ := p32
    have x0r30 : (((rn 48 57 B ln.toInt.toNat (rn 32 32 B ln.toInt.toNat aa1_f13.toInt.toNat)) = (rn 32 32 B ln.toInt.toNat aa1_f13.toInt.toNat) + 1 → r30.toInt = B (rn 32 32 B ln.toInt.toNat aa1_f13.toInt.toNat) - 48) ∧ ((rn 48 57 B ln.toInt.toNat (rn 32 32 B ln.toInt.toNat aa1_f13.toInt.toNat)) ≠ (rn 32 32 B ln.toInt.toNat aa1_f13.toInt.toNat) + 1 → r30.toInt = -1)) := x0r30
    have of31 : Fr [60, 62, 60004, 60005] τ f f31 := Fr.tr of13 ogf31 (by decide) (by decide)
    have k34 := atp.fk k15 ogf31 hu0 (by decide) (by decide)
    have k35 := atp.fk k16 ogf31 hu0 (by decide) (by decide)
    have k36 := atp.fk k18 ogf31 hu0 (by decide) (by decide)
    have k37 := atp.fr k19 ogf31 htq (by decide)
    have k38 := atp.fr k20 ogf31 hdq (by decide)
    have eK39 : rn 32 32 B ln.toInt.toNat aa1_f13.toInt.toNat = (rn 32 32 B ln.toInt.toNat ((rn 32 32 B ln.toInt.toNat (aa.toInt.toNat + 1)) + 4)) := by rw [show aa1_f13.toInt.toNat = ((rn 32 32 B ln.toInt.toNat (aa.toInt.toNat + 1)) + 4) by omega]
    rw [eK39] at x0r30 rpu0_3f31 rpu0_4f31
    refine e_iast C h tf31 of31 hdq (by decide) (by decide) wf_62 fw_62 k38 (by unfold vp_in; decide) (iv_w ir30 (by decide)) dX11_readsStart_39 (fun R42 f40 erR42 H locs h tf40 of40 hq hn_ k41 => ?_)
    have erR42 : R42 = upd rd 8 r30 := erR42
    have k43 := atp.tg k34 hq hu0 (by decide)
    have k44 := atp.tg k35 hq hu0 (by decide)
    have k45 := atp.tg k36 hq hu0 (by decide)
    have k46 := atp.tg k37 hq htq (by decide)
    have k48 := atp.tg kpu0_3f31 hq hu0 (by decide)
    have k49 := atp.tg kpu0_4f31 hq hu0 (by decide)
    refine lv_aload_n hx hb dX11_readsStart_40 rfl (lv_at hl 0 rfl) ?_
    refine t_getfd C h tf40 hu0 (by decide) wf_60 (v := .int fa1_f31) k49 fl_X11_97 dX11_readsStart_41 ?_
    refine lv_iconst (v := -1) hx hb dX11_readsStart_44 (by decide) ?_
    refine lv_icmp_ne (tgt := 60) hx hb dX11_readsStart_45 (by decide) (fun c50 => ?_) (fun c50 => ?_)
    · have c51 : fa1_f31.toInt ≠ (-1) := fun z_ => c50 (Int32.toInt_inj.mp z_)
      have i52 : iv fa1_f31 0 200 := iv_Nl c51 ipu0_4f31 (by decide)
      exact u_vret C h hr hQ (⟨tf40, of40, ⟨aa1_f31, fa1_f31, R42, ⟨k48, ipu0_3f31⟩, ⟨k49, (iv_w i52 (by decide))⟩, k41, (by
          have hl1 := rn_le (lo := 32) (hi := 32) (B := B) (L := ln.toInt.toNat) (i := aa.toInt.toNat + 1) (by omega)
          have hmw := cnr12 (by omega)
          have hmw1 := hmw.1
          have hl2 := rn_le (lo := 32) (hi := 32) (B := B) (L := ln.toInt.toNat) (i := (rn 32 32 B ln.toInt.toNat (aa.toInt.toNat + 1)) + 4) (by omega)
          refine ⟨fun k hk => by rw [erR42, upd_off (by omega)], fun z_ => absurd z_ (by omega), fun _ => ?_⟩
          rw [rs_semi (p := aa.toInt.toNat) (by omega) h59 hbb, rs_from hmw, rs_xyN (Or.inl rfl) hl2 (rn_stop _) (fun z_ => by have o_ := rn_one z_; omega)]; omega)⟩⟩) (Nat.le_of_ble_eq_true rfl) (Nat.le_of_ble_eq_true rfl) dX11_readsStart_60
    · have c53 : fa1_f31.toInt = (-1) := congrArg Int32.toInt c50
      have i54 : iv fa1_f31 (-1) (-1) := iv_Q c53 ipu0_4f31 (iv_k (x := (-1)) (k := (-1)) rfl) (by decide)
      refine lv_aload_n hx hb dX11_readsStart_48 rfl (lv_at hl 0 rfl) ?_
      refine t_getfd C h tf40 hu0 (by decide) wf_60 (v := .ref dq) k45 fl_X11_13 dX11_readsStart_49 ?_
      refine lv_bipush (v := 9) hx hb dX11_readsStart_52 (by decide) ?_
      refine lv_aload_n hx hb dX11_readsStart_54 rfl (lv_at hl 0 rfl) ?_
      refine lv_iconst (v := 0) hx hb dX11_readsStart_55 (by decide) ?_
      obtain ⟨_, r55⟩ := t_rec tf40 hu0 (by decide) wf_60
      refine k_i (r_V C h hl (As := [.int 0]) (rest := [.int 9, .ref dq]) (s_X11_digitX l D G b0 τ f40 tf40 u0 hu0 0 (iv_w (iv_k (x := 0) (k := 0) rfl) (by decide)) ln hln k43 aa1_f31 ipu0_3f31 k48 tq htq k44 fa1_f31 (iv_w i54 (by decide)) k49 rt k46 B hB) r55 (Cn := RX11) (T := TX11) (N := 32) rfl rfl mk_X11_digit w_1591 w_1593 w_46 w_1594 ⟨Nat.le_of_ble_eq_true rfl, Nat.le_of_ble_eq_true rfl⟩ rfl (Nat.le_of_ble_eq_true rfl) ⟨Nat.le_of_ble_eq_true rfl, Nat.le_of_ble_eq_true rfl⟩ rfl dX11_readsStart_56) h (fun r56 f57 H locs p58 h => ?_)
      have n59 : (0 : Int32).toInt = 0 := rfl
      obtain ⟨ir56, tf57, ogf57, x0r56, ⟨aa1_f57, kpu0_3f57, ipu0_3f57, rpu0_3f57⟩, ⟨fa1_f57, kpu0_4f57, ipu0_4f57, rpu0_4f57⟩⟩ := p58
      have x0r56 : (((rn 48 57 B ln.toInt.toNat (rn 32 32 B ln.toInt.toNat aa1_f31.toInt.toNat)) = (rn 32 32 B ln.toInt.toNat aa1_f31.toInt.toNat) + 1 → r56.toInt = B (rn 32 32 B ln.toInt.toNat aa1_f31.toInt.toNat) - 48) ∧ ((rn 48 57 B ln.toInt.toNat (rn 32 32 B ln.toInt.toNat aa1_f31.toInt.toNat)) ≠ (rn 32 32 B ln.toInt.toNat aa1_f31.toInt.toNat) + 1 → r56.toInt = -1)) := x0r56
      have of57 : Fr [60, 62, 60004, 60005] τ f f57 := Fr.tr of40 ogf57 (by decide) (by decide)
      have k60 := atp.fk k43 ogf57 hu0 (by decide) (by decide)
      have k61 := atp.fk k44 ogf57 hu0 (by decide) (by decide)
      have k62 := atp.fk k45 ogf57 hu0 (by decide) (by decide)
      have k63 := atp.fr k46 ogf57 htq (by decide)
      have k64 := atp.fr k41 ogf57 hdq (by decide)
      have eK65 : rn 32 32 B ln.toInt.toNat aa1_f31.toInt.toNat = (rn 32 32 B ln.toInt.toNat (rn 48 57 B ln.toInt.toNat (rn 32 32 B ln.toInt.toNat ((rn 32 32 B ln.toInt.toNat (aa.toInt.toNat + 1)) + 4)))) := by rw [show aa1_f31.toInt.toNat = (rn 48 57 B ln.toInt.toNat (rn 32 32 B ln.toInt.toNat ((rn 32 32 B ln.toInt.toNat (aa.toInt.toNat + 1)) + 4))) by omega]
      rw [eK65] at x0r56 rpu0_3f57 rpu0_4f57
      refine e_iast C h tf57 of57 hdq (by decide) (by decide) wf_62 fw_62 k64 (by unfold vp_in; decide) (iv_w ir56 (by decide)) dX11_readsStart_59 (fun R68 f66 erR68 H locs h tf66 of66 hq hn_ k67 => ?_)
      have erR68 : R68 = upd R42 9 r56 := erR68
      have k69 := atp.tg k60 hq hu0 (by decide)
      have k70 := atp.tg k61 hq hu0 (by decide)
      have k71 := atp.tg k62 hq hu0 (by decide)
      have k72 := atp.tg k63 hq htq (by decide)
      have k74 := atp.tg kpu0_3f57 hq hu0 (by decide)
      have k75 := atp.tg kpu0_4f57 hq hu0 (by decide)
      exact u_vret C h hr hQ (⟨tf66, of66, ⟨aa1_f57, fa1_f57, R68, ⟨k74, ipu0_3f57⟩, ⟨k75, ipu0_4f57⟩, k67, (by
          have hl1 := rn_le (lo := 32) (hi := 32) (B := B) (L := ln.toInt.toNat) (i := aa.toInt.toNat + 1) (by omega)
          have hmw := cnr12 (by omega)
          have hmw1 := hmw.1
          have hl2 := rn_le (lo := 32) (hi := 32) (B := B) (L := ln.toInt.toNat) (i := (rn 32 32 B ln.toInt.toNat (aa.toInt.toNat + 1)) + 4) (by omega)
          have o1 := rn_one (lo := 48) (hi := 57) (B := B) (L := ln.toInt.toNat) (i := (rn 32 32 B ln.toInt.toNat ((rn 32 32 B ln.toInt.toNat (aa.toInt.toNat + 1)) + 4))) (by omega)
          have hl3 := rn_le (lo := 48) (hi := 57) (B := B) (L := ln.toInt.toNat) (i := (rn 32 32 B ln.toInt.toNat ((rn 32 32 B ln.toInt.toNat (aa.toInt.toNat + 1)) + 4))) (by omega)
          have hl4 := rn_le (lo := 32) (hi := 32) (B := B) (L := ln.toInt.toNat) (i := (rn 48 57 B ln.toInt.toNat (rn 32 32 B ln.toInt.toNat ((rn 32 32 B ln.toInt.toNat (aa.toInt.toNat + 1)) + 4)))) (by omega)
          have eA : aa1_f57.toInt.toNat = (rn 48 57 B ln.toInt.toNat (rn 32 32 B ln.toInt.toNat (rn 48 57 B ln.toInt.toNat (rn 32 32 B ln.toInt.toNat ((rn 32 32 B ln.toInt.toNat (aa.toInt.toNat + 1)) + 4))))) := by omega
          have e8 : (R68 8).toInt = B (rn 32 32 B ln.toInt.toNat ((rn 32 32 B ln.toInt.toNat (aa.toInt.toNat + 1)) + 4)) - 48 := by rw [erR68, upd_off (by decide), erR42, upd_at rfl]; omega
          by_cases q9 : (rn 48 57 B ln.toInt.toNat (rn 32 32 B ln.toInt.toNat (rn 48 57 B ln.toInt.toNat (rn 32 32 B ln.toInt.toNat ((rn 32 32 B ln.toInt.toNat (aa.toInt.toNat + 1)) + 4))))) = (rn 32 32 B ln.toInt.toNat (rn 48 57 B ln.toInt.toNat (rn 32 32 B ln.toInt.toNat ((rn 32 32 B ln.toInt.toNat (aa.toInt.toNat + 1)) + 4)))) + 1
          · have o2 := rn_one (lo := 48) (hi := 57) (B := B) (L := ln.toInt.toNat) (i := (rn 32 32 B ln.toInt.toNat (rn 48 57 B ln.toInt.toNat (rn 32 32 B ln.toInt.toNat ((rn 32 32 B ln.toInt.toNat (aa.toInt.toNat + 1)) + 4))))) q9
            have e9 : (R68 9).toInt = B (rn 32 32 B ln.toInt.toNat (rn 48 57 B ln.toInt.toNat (rn 32 32 B ln.toInt.toNat ((rn 32 32 B ln.toInt.toNat (aa.toInt.toNat + 1)) + 4)))) - 48 := by rw [erR68, upd_at rfl]; omega
            refine ⟨fun k hk => by rw [erR68, upd_off (by omega), erR42, upd_off (by omega)], fun _ => ⟨⟨by omega, by omega⟩, ?_⟩, fun z_ => absurd (by omega) z_⟩
            rw [e8, e9, eA, rs_semi (p := aa.toInt.toNat) (by omega) h59 hbb, rs_from hmw, rs_x (p := (rn 32 32 B ln.toInt.toNat ((rn 32 32 B ln.toInt.toNat (aa.toInt.toNat + 1)) + 4))) o1.1 o1.2 (by omega), run_sk (rn 48 57 B ln.toInt.toNat (rn 32 32 B ln.toInt.toNat ((rn 32 32 B ln.toInt.toNat (aa.toInt.toNat + 1)) + 4))), rs_y o2.1 o2.2 q9]
          · refine ⟨fun k hk => by rw [erR68, upd_off (by omega), erR42, upd_off (by omega)], fun z_ => absurd z_ (by omega), fun _ => ?_⟩
            rw [rs_semi (p := aa.toInt.toNat) (by omega) h59 hbb, rs_from hmw, rs_x (p := (rn 32 32 B ln.toInt.toNat ((rn 32 32 B ln.toInt.toNat (aa.toInt.toNat + 1)) + 4))) o1.1 o1.2 (by omega), run_sk (rn 48 57 B ln.toInt.toNat (rn 32 32 B ln.toInt.toNat ((rn 32 32 B ln.toInt.toNat (aa.toInt.toNat + 1)) + 4))), rs_xyN (Or.inr rfl) hl4 (rn_stop _) q9]; omega)⟩⟩) (Nat.le_of_ble_eq_true rfl) (Nat.le_of_ble_eq_true rfl) dX11_readsStart_60
  · have c26 : r12.toInt = 0 := congrArg Int32.toInt c22
    have i27 : iv r12 0 0 := iv_Q c26 ir12 (iv_k (x := 0) (k := 0) rfl) (by decide)
    have i28 := czr12 c26
    refine lv_aload_n hx hb dX11_readsStart_19 rfl (lv_at hl 0 rfl) ?_
    refine lv_aload_n hx hb dX11_readsStart_20 rfl (lv_at hl 0 rfl) ?_
    refine t_getfd C h tf13 hu0 (by decide) wf_60 (v := .int aa1_f13) kpu0_3f13 fl_X11_90 dX11_readsStart_21 ?_
    obtain ⟨_, r76⟩ := t_rec tf13 hu0 (by decide) wf_60
    refine k_v (r_V C h hl (As := [.int aa1_f13]) (rest := []) (s_X11_failsX l D G b0 τ f13 tf13 u0 hu0 aa1_f13 ipu0_3f13 fa (iv_w hfa (by decide)) k17) r76 (Cn := RX11) (T := TX11) (N := 32) rfl rfl mk_X11_fails w_1583 w_1585 w_44 w_1586 ⟨Nat.le_of_ble_eq_true rfl, Nat.le_of_ble_eq_true rfl⟩ rfl (Nat.le_of_ble_eq_true rfl) ⟨Nat.le_of_ble_eq_true rfl, Nat.le_of_ble_eq_true rfl⟩ rfl dX11_readsStart_24) h (fun f78 H locs p79 h => ?_)
    obtain ⟨tf78, ogf78, ⟨fa1_f78, kpu0_4f78, ipu0_4f78, rpu0_4f78⟩⟩ := p79
    have of78 : Fr [60, 62, 60004, 60005] τ f f78 := Fr.tr of13 ogf78 (by decide) (by decide)
    have k80 := atp.fk k15 ogf78 hu0 (by decide) (by decide)
    have k81 := atp.fk k16 ogf78 hu0 (by decide) (by decide)
    have k82 := atp.fk k18 ogf78 hu0 (by decide) (by decide)
    have k83 := atp.fr k19 ogf78 htq (by decide)
    have k84 := atp.fr k20 ogf78 hdq (by decide)
    have k85 := atp.fk kpu0_3f13 ogf78 hu0 (by decide) (by decide)
    exact u_vret C h hr hQ (⟨tf78, of78, ⟨aa1_f13, fa1_f78, rd, ⟨k85, ipu0_3f13⟩, ⟨kpu0_4f78, ipu0_4f78⟩, k84, (by
        have hl1 := rn_le (lo := 32) (hi := 32) (B := B) (L := ln.toInt.toNat) (i := aa.toInt.toNat + 1) (by omega)
        refine ⟨fun k hk => rfl, fun z_ => absurd z_ (by omega), fun _ => ?_⟩
        rw [rs_semi (p := aa.toInt.toNat) (by omega) h59 hbb, rs_fromN hl1 (rn_stop _) (czr12 (by omega))]; omega)⟩⟩) (Nat.le_of_ble_eq_true rfl) (Nat.le_of_ble_eq_true rfl) dX11_readsStart_27
