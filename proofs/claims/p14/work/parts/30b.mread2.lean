theorem dX11_readsStep_0 : decode cX11_readsStep 0 = .ok (.aload_n 0, 1) := by decide +kernel
theorem dX11_readsStep_1 : decode cX11_readsStep 1 = .ok (.invokevirtual 100, 3) := by decide +kernel
theorem dX11_readsStep_4 : decode cX11_readsStep 4 = .ok (.istore_n 1, 1) := by decide +kernel
theorem dX11_readsStep_5 : decode cX11_readsStep 5 = .ok (.aload_n 0, 1) := by decide +kernel
theorem dX11_readsStep_6 : decode cX11_readsStep 6 = .ok (.getfield 90, 3) := by decide +kernel
theorem dX11_readsStep_9 : decode cX11_readsStep 9 = .ok (.istore_n 2, 1) := by decide +kernel
theorem dX11_readsStep_10 : decode cX11_readsStep 10 = .ok (.aload_n 0, 1) := by decide +kernel
theorem dX11_readsStep_11 : decode cX11_readsStep 11 = .ok (.invokevirtual 134, 3) := by decide +kernel
theorem w_1565 : Cond.methodLink "QuarterWalksModel" 134 yX11_stepHere ∈ wAll := wI7 30 (by decide +kernel) (by decide +kernel)
theorem w_42 : Cond.selects yX11_stepHere.cls yX11_stepHere yX11_stepHere ∈ wAll := wIn 42 (by decide +kernel) (by decide +kernel)
theorem mk_X11_stepHere : mk yX11_stepHere 0 := ⟨by decide +kernel, w_110⟩
theorem w_1567 : Cond.instanceMethod yX11_stepHere ∈ wAll := wI7 32 (by decide +kernel) (by decide +kernel)
theorem w_1568 : Cond.code yX11_stepHere cX11_stepHere 1 (some .int) ∈ wAll := wI7 33 (by decide +kernel) (by decide +kernel)
theorem dX11_readsStep_14 : decode cX11_readsStep 14 = .ok (.istore_n 3, 1) := by decide +kernel
theorem dX11_readsStep_15 : decode cX11_readsStep 15 = .ok (.iload_n 3, 1) := by decide +kernel
theorem dX11_readsStep_16 : decode cX11_readsStep 16 = .ok (.iconst (-1), 1) := by decide +kernel
theorem dX11_readsStep_17 : decode cX11_readsStep 17 = .ok (.if_icmp .eq 12, 3) := by decide +kernel
theorem dX11_readsStep_29 : decode cX11_readsStep 29 = .ok (.aload_n 0, 1) := by decide +kernel
theorem dX11_readsStep_30 : decode cX11_readsStep 30 = .ok (.iload_n 2, 1) := by decide +kernel
theorem dX11_readsStep_31 : decode cX11_readsStep 31 = .ok (.invokevirtual 111, 3) := by decide +kernel
theorem dX11_readsStep_20 : decode cX11_readsStep 20 = .ok (.aload_n 0, 1) := by decide +kernel
theorem dX11_readsStep_21 : decode cX11_readsStep 21 = .ok (.getfield 13, 3) := by decide +kernel
theorem dX11_readsStep_24 : decode cX11_readsStep 24 = .ok (.iload_n 3, 1) := by decide +kernel
theorem dX11_readsStep_25 : decode cX11_readsStep 25 = .ok (.iaload, 1) := by decide +kernel
theorem dX11_readsStep_26 : decode cX11_readsStep 26 = .ok (.ifCond .le 9, 3) := by decide +kernel
theorem dX11_readsStep_35 : decode cX11_readsStep 35 = .ok (.aload_n 0, 1) := by decide +kernel
theorem dX11_readsStep_36 : decode cX11_readsStep 36 = .ok (.getfield 13, 3) := by decide +kernel
theorem dX11_readsStep_39 : decode cX11_readsStep 39 = .ok (.iload_n 3, 1) := by decide +kernel
theorem dX11_readsStep_40 : decode cX11_readsStep 40 = .ok (.iconst 1, 1) := by decide +kernel
theorem dX11_readsStep_41 : decode cX11_readsStep 41 = .ok (.iastore, 1) := by decide +kernel
theorem dX11_readsStep_42 : decode cX11_readsStep 42 = .ok (.aload_n 0, 1) := by decide +kernel
theorem dX11_readsStep_43 : decode cX11_readsStep 43 = .ok (.invokevirtual 137, 3) := by decide +kernel
theorem w_1587 : Cond.methodLink "QuarterWalksModel" 137 yX11_isDigit ∈ wAll := wI7 52 (by decide +kernel) (by decide +kernel)
theorem w_45 : Cond.selects yX11_isDigit.cls yX11_isDigit yX11_isDigit ∈ wAll := wIn 45 (by decide +kernel) (by decide +kernel)
theorem mk_X11_isDigit : mk yX11_isDigit 0 := ⟨by decide +kernel, w_110⟩
theorem w_1589 : Cond.instanceMethod yX11_isDigit ∈ wAll := wI7 54 (by decide +kernel) (by decide +kernel)
theorem w_1590 : Cond.code yX11_isDigit cX11_isDigit 2 (some .boolean) ∈ wAll := wI7 55 (by decide +kernel) (by decide +kernel)
theorem dX11_readsStep_46 : decode cX11_readsStep 46 = .ok (.ifCond .eq 14, 3) := by decide +kernel
theorem dX11_readsStep_49 : decode cX11_readsStep 49 = .ok (.aload_n 0, 1) := by decide +kernel
theorem dX11_readsStep_50 : decode cX11_readsStep 50 = .ok (.getfield 13, 3) := by decide +kernel
theorem dX11_readsStep_53 : decode cX11_readsStep 53 = .ok (.iload_n 3, 1) := by decide +kernel
theorem dX11_readsStep_54 : decode cX11_readsStep 54 = .ok (.aload_n 0, 1) := by decide +kernel
theorem dX11_readsStep_55 : decode cX11_readsStep 55 = .ok (.iconst 1, 1) := by decide +kernel
theorem dX11_readsStep_56 : decode cX11_readsStep 56 = .ok (.invokevirtual 141, 3) := by decide +kernel
theorem w_1591 : Cond.methodLink "QuarterWalksModel" 141 yX11_digit ∈ wAll := wI7 56 (by decide +kernel) (by decide +kernel)
theorem w_46 : Cond.selects yX11_digit.cls yX11_digit yX11_digit ∈ wAll := wIn 46 (by decide +kernel) (by decide +kernel)
theorem mk_X11_digit : mk yX11_digit 1 := ⟨by decide +kernel, w_110⟩
theorem w_1593 : Cond.instanceMethod yX11_digit ∈ wAll := wI7 58 (by decide +kernel) (by decide +kernel)
theorem w_1594 : Cond.code yX11_digit cX11_digit 5 (some .int) ∈ wAll := wI7 59 (by decide +kernel) (by decide +kernel)
theorem dX11_readsStep_59 : decode cX11_readsStep 59 = .ok (.iastore, 1) := by decide +kernel
theorem dX11_readsStep_34 : decode cX11_readsStep 34 = .ok (.return_, 1) := by decide +kernel
theorem dX11_readsStep_60 : decode cX11_readsStep 60 = .ok (.return_, 1) := by decide +kernel
abbrev rm_s_X11_readsStepX : Room := { frames := 6, cells := 0, slots := 0, locals := 128 }
set_option maxRecDepth 100000 in
set_option maxHeartbeats 4000000 in
theorem s_X11_readsStepX (l : Launch) (D : va_G) (G : Nat → Nat) (b0 : Nat) (τ : Nat → Nat) (f : hM) (t : TI G 9 τ f) (u0 : Nat) (hu0 : τ u0 = 60) (ln : Int32) (hln : iv ln 0 200) (k_u0_2 : atp f u0 (fd 2 (.int ln))) (aa : Int32) (haa : iv aa 0 200) (k_u0_3 : atp f u0 (fd 3 (.int aa))) (tq : Nat) (htq : τ tq = 61) (k_u0_1 : atp f u0 (fd 1 (.ref tq))) (fa : Int32) (hfa : iv fa (-1) (-1)) (k_u0_4 : atp f u0 (fd 4 (.int fa))) (dq : Nat) (hdq : τ dq = 62) (k_u0_5 : atp f u0 (fd 5 (.ref dq))) (rt : Nat → Int32) (hRtq : atp f tq (eqc (.inl (G 0, 200, .inl rt)))) (rd : Nat → Int32) (hRdq : atp f dq (eqc (.inl (G 1, 10, .inl rd)))) (B : Nat → Int) (hB : ∀ k : Nat, (k : Int) < ln.toInt → (rt k).toInt = sg (B k) ∧ 0 ≤ B k ∧ B k ≤ 255) (bb : Int) (lb : Nat) (xx yy : Int) (w : Nat → Int) (hw : (∀ k : Nat, k < 8 → (rd k).toInt = w k ∧ 0 ≤ w k ∧ w k ≤ 9)) (hbb : bb = 0 ∨ bb = 1 ∨ bb = 2) (hnx : (bb ≠ 0 → (rn 32 32 B ln.toInt.toNat aa.toInt.toNat) < ln.toInt.toNat ∧ B (rn 32 32 B ln.toInt.toNat aa.toInt.toNat) ≠ 59 ∧ (bb = 1 → ¬ (48 ≤ B (rn 32 32 B ln.toInt.toNat aa.toInt.toNat) ∧ B (rn 32 32 B ln.toInt.toNat aa.toInt.toNat) ≤ 57)))) (hal : aa.toInt ≤ ln.toInt)  : mV l yX11_readsStep cX11_readsStep 4 rm_s_X11_readsStepX D G b0 f [.ref u0] (fun f1 => TI G 9 τ f1 ∧ Fr [60, 62, 60004, 60005] τ f f1 ∧ (∃ (aa1 : Int32) (fa1 : Int32) (rd1 : Nat → Int32), (atp f1 u0 (fd 3 (.int aa1)) ∧ iv aa1 0 200) ∧ (atp f1 u0 (fd 4 (.int fa1)) ∧ iv fa1 (-1) 200) ∧ atp f1 dq (eqc (.inl (G 1, 10, .inl rd1))) ∧ ((∀ k : Nat, 8 ≤ k → rd1 k = rd k) ∧ (fa1.toInt = -1 → aa.toInt < aa1.toInt ∧ aa1.toInt ≤ ln.toInt ∧ RSt B ln.toInt.toNat aa1.toInt.toNat rd1 xx yy (run B ln.toInt.toNat aa.toInt.toNat bb w lb xx yy)) ∧ (fa1.toInt ≠ -1 → (run B ln.toInt.toNat aa.toInt.toNat bb w lb xx yy).1 = fa1.toInt)))) := by
  refine met2 (own := RX11) (by decide) rfl (Nat.le_of_ble_eq_true rfl) ?_
  intro p e s m args below meth c ls Q hQ C hr hini hl h
  have hl : lv_has ls 4 [(0, .ref u0)] := hl
  obtain ⟨hx, hb, hml, hown, hts, hE0, hlk⟩ := id C
  have o := Fr.rf [60, 62, 60004, 60005] τ f
  refine lv_aload_n hx hb dX11_readsStep_0 rfl (lv_at hl 0 rfl) ?_
  obtain ⟨_, r1⟩ := t_rec t hu0 (by decide) wf_60
  refine k_i (r_V C h hl (As := []) (rest := []) (s_X11_lookX l D G b0 τ f t u0 hu0 ln hln k_u0_2 aa haa k_u0_3 tq htq k_u0_1 rt hRtq B hB) r1 (Cn := RX11) (T := TX11) (N := 32) rfl rfl mk_X11_look w_1557 w_1559 w_40 w_1560 ⟨Nat.le_of_ble_eq_true rfl, Nat.le_of_ble_eq_true rfl⟩ rfl (Nat.le_of_ble_eq_true rfl) ⟨Nat.le_of_ble_eq_true rfl, Nat.le_of_ble_eq_true rfl⟩ rfl dX11_readsStep_1) h (fun r2 f3 H locs p4 h => ?_)
  obtain ⟨ir2, tf3, ogf3, x0r2, ⟨aa1_f3, kpu0_3f3, ipu0_3f3, rpu0_3f3⟩⟩ := p4
  have of3 : Fr [60, 62, 60004, 60005] τ f f3 := Fr.tr o ogf3 (by decide) (by decide)
  have k5 := atp.fk k_u0_2 ogf3 hu0 (by decide) (by decide)
  have k6 := atp.fk k_u0_1 ogf3 hu0 (by decide) (by decide)
  have k7 := atp.fk k_u0_4 ogf3 hu0 (by decide) (by decide)
  have k8 := atp.fk k_u0_5 ogf3 hu0 (by decide) (by decide)
  have k9 := atp.fr hRtq ogf3 htq (by decide)
  have k10 := atp.fr hRdq ogf3 hdq (by decide)
  refine lv_istore_n (lv' := [(1, .int r2), (0, .ref u0)]) hx hb dX11_readsStep_4 rfl hl (by decide) rfl (fun ls hl => ?_)
  refine lv_aload_n hx hb dX11_readsStep_5 rfl (lv_at hl 1 rfl) ?_
  refine t_getfd C h tf3 hu0 (by decide) wf_60 (v := .int aa1_f3) kpu0_3f3 fl_X11_90 dX11_readsStep_6 ?_
  refine lv_istore_n (lv' := [(2, .int aa1_f3), (1, .int r2), (0, .ref u0)]) hx hb dX11_readsStep_9 rfl hl (by decide) rfl (fun ls hl => ?_)
  refine lv_aload_n hx hb dX11_readsStep_10 rfl (lv_at hl 2 rfl) ?_
  obtain ⟨_, r11⟩ := t_rec tf3 hu0 (by decide) wf_60
  refine k_i (r_V C h hl (As := []) (rest := []) (s_X11_stepHereX l D G b0 τ f3 tf3 u0 hu0 ln hln k5 aa1_f3 ipu0_3f3 kpu0_3f3 tq htq k6 rt k9 B hB) r11 (Cn := RX11) (T := TX11) (N := 32) rfl rfl mk_X11_stepHere w_1565 w_1567 w_42 w_1568 ⟨Nat.le_of_ble_eq_true rfl, Nat.le_of_ble_eq_true rfl⟩ rfl (Nat.le_of_ble_eq_true rfl) ⟨Nat.le_of_ble_eq_true rfl, Nat.le_of_ble_eq_true rfl⟩ rfl dX11_readsStep_11) h (fun r12 f13 H locs p14 h => ?_)
  obtain ⟨ir12, tf13, ogf13, x0r12, ⟨aa1_f13, kpu0_3f13, ipu0_3f13, rpu0_3f13⟩⟩ := p14
  have of13 : Fr [60, 62, 60004, 60005] τ f f13 := Fr.tr of3 ogf13 (by decide) (by decide)
  have k15 := atp.fk k5 ogf13 hu0 (by decide) (by decide)
  have k16 := atp.fk k6 ogf13 hu0 (by decide) (by decide)
  have k17 := atp.fk k7 ogf13 hu0 (by decide) (by decide)
  have k18 := atp.fk k8 ogf13 hu0 (by decide) (by decide)
  have k19 := atp.fr k9 ogf13 htq (by decide)
  have k20 := atp.fr k10 ogf13 hdq (by decide)
  have eK21 : rn 32 32 B ln.toInt.toNat aa1_f3.toInt.toNat = (rn 32 32 B ln.toInt.toNat aa.toInt.toNat) := by rw [show aa1_f3.toInt.toNat = (rn 32 32 B ln.toInt.toNat aa.toInt.toNat) by omega]; exact rn_rn _
  rw [eK21] at x0r12 rpu0_3f13
  refine lv_istore_n (lv' := [(3, .int r12), (2, .int aa1_f3), (1, .int r2), (0, .ref u0)]) hx hb dX11_readsStep_14 rfl hl (by decide) rfl (fun ls hl => ?_)
  refine lv_iload_n hx hb dX11_readsStep_15 rfl (lv_at hl 0 rfl) ?_
  refine lv_iconst (v := -1) hx hb dX11_readsStep_16 (by decide) ?_
  refine lv_icmp_eq (tgt := 29) hx hb dX11_readsStep_17 (by decide) (fun c22 => ?_) (fun c22 => ?_)
  · have c23 : r12.toInt = (-1) := congrArg Int32.toInt c22
    have i24 : iv r12 (-1) (-1) := iv_Q c23 ir12 (iv_k (x := (-1)) (k := (-1)) rfl) (by decide)
    refine lv_aload_n hx hb dX11_readsStep_29 rfl (lv_at hl 3 rfl) ?_
    refine lv_iload_n hx hb dX11_readsStep_30 rfl (lv_at hl 1 rfl) ?_
    obtain ⟨_, r27⟩ := t_rec tf13 hu0 (by decide) wf_60
    refine k_v (r_V C h hl (As := [.int aa1_f3]) (rest := []) (s_X11_failsX l D G b0 τ f13 tf13 u0 hu0 aa1_f3 ipu0_3f3 fa (iv_w hfa (by decide)) k17) r27 (Cn := RX11) (T := TX11) (N := 32) rfl rfl mk_X11_fails w_1583 w_1585 w_44 w_1586 ⟨Nat.le_of_ble_eq_true rfl, Nat.le_of_ble_eq_true rfl⟩ rfl (Nat.le_of_ble_eq_true rfl) ⟨Nat.le_of_ble_eq_true rfl, Nat.le_of_ble_eq_true rfl⟩ rfl dX11_readsStep_31) h (fun f29 H locs p30 h => ?_)
    obtain ⟨tf29, ogf29, ⟨fa1_f29, kpu0_4f29, ipu0_4f29, rpu0_4f29⟩⟩ := p30
    have of29 : Fr [60, 62, 60004, 60005] τ f f29 := Fr.tr of13 ogf29 (by decide) (by decide)
    have k31 := atp.fk k15 ogf29 hu0 (by decide) (by decide)
    have k32 := atp.fk k16 ogf29 hu0 (by decide) (by decide)
    have k33 := atp.fk k18 ogf29 hu0 (by decide) (by decide)
    have k34 := atp.fr k19 ogf29 htq (by decide)
    have k35 := atp.fr k20 ogf29 hdq (by decide)
    have k36 := atp.fk kpu0_3f13 ogf29 hu0 (by decide) (by decide)
    exact u_vret C h hr hQ (⟨tf29, of29, ⟨aa1_f13, fa1_f29, rd, ⟨k36, ipu0_3f13⟩, ⟨kpu0_4f29, ipu0_4f29⟩, k35, (by
        have hr0 := rn_le (lo := 32) (hi := 32) (B := B) (L := ln.toInt.toNat) (i := aa.toInt.toNat) (by omega)
        refine ⟨fun k hk => rfl, fun z_ => absurd z_ (by omega), fun _ => ?_⟩
        rw [run_sk aa.toInt.toNat, rs_fail hbb hr0 (rn_stop _) hnx (fun a_ b_ c_ => absurd (sh_n (by omega) a_ b_) c_)]; omega)⟩⟩) (Nat.le_of_ble_eq_true rfl) (Nat.le_of_ble_eq_true rfl) dX11_readsStep_34
  · have c25 : r12.toInt ≠ (-1) := fun z_ => c22 (Int32.toInt_inj.mp z_)
    have i26 : iv r12 0 7 := iv_Nl c25 ir12 (by decide)
    refine lv_aload_n hx hb dX11_readsStep_20 rfl (lv_at hl 3 rfl) ?_
    refine t_getfd C h tf13 hu0 (by decide) wf_60 (v := .ref dq) k18 fl_X11_13 dX11_readsStep_21 ?_
    refine lv_iload_n hx hb dX11_readsStep_24 rfl (lv_at hl 0 rfl) ?_
    refine e_iald C h tf13 hdq (by decide) wf_62 k20 (iv_in i26 (by decide)) dX11_readsStep_25 (fun z37 ez37 iz37 => ?_)
    have mz37 := congrArg Int32.toInt ez37
    have hy0 := sh_c (B := B) (L := ln.toInt.toNat) (p := (rn 32 32 B ln.toInt.toNat aa.toInt.toNat)) (by omega)
    have hy : ((rn 32 32 B ln.toInt.toNat aa.toInt.toNat) < ln.toInt.toNat ∧ (97 ≤ B (rn 32 32 B ln.toInt.toNat aa.toInt.toNat) ∧ B (rn 32 32 B ln.toInt.toNat aa.toInt.toNat) ≤ 122)) ∧ r12.toInt = stpn B (rn 32 32 B ln.toInt.toNat aa.toInt.toNat) (te B ln.toInt.toNat (rn 32 32 B ln.toInt.toNat aa.toInt.toNat)) := ⟨⟨hy0.1, hy0.2.1⟩, x0r12.trans hy0.2.2⟩
    have hz := hw r12.toInt.toNat (by omega)
    rw [← mz37] at hz
    have hz2 : w (stpn B (rn 32 32 B ln.toInt.toNat aa.toInt.toNat) (te B ln.toInt.toNat (rn 32 32 B ln.toInt.toNat aa.toInt.toNat))).toNat = z37.toInt := by rw [show (stpn B (rn 32 32 B ln.toInt.toNat aa.toInt.toNat) (te B ln.toInt.toNat (rn 32 32 B ln.toInt.toNat aa.toInt.toNat))).toNat = r12.toInt.toNat by omega]; exact hz.1.symm
    refine lv_if_le (tgt := 35) hx hb dX11_readsStep_26 (by decide) (fun c38 => ?_) (fun c38 => ?_)
    · have c39 : z37.toInt ≤ 0 := Int32.le_iff_toInt_le.mp c38
      have i40 : iv z37 (-2147483648) 0 := iv_El c39 iz37 (iv_k (x := 0) (k := 0) rfl) (by decide)
      refine lv_aload_n hx hb dX11_readsStep_35 rfl (lv_at hl 3 rfl) ?_
      refine t_getfd C h tf13 hu0 (by decide) wf_60 (v := .ref dq) k18 fl_X11_13 dX11_readsStep_36 ?_
      refine lv_iload_n hx hb dX11_readsStep_39 rfl (lv_at hl 0 rfl) ?_
      refine lv_iconst (v := 1) hx hb dX11_readsStep_40 (by decide) ?_
      refine e_iast C h tf13 of13 hdq (by decide) (by decide) wf_62 fw_62 k20 (iv_in i26 (by decide)) ⟨by decide, by decide⟩ dX11_readsStep_41 (fun R45 f43 erR45 H locs h tf43 of43 hq hn_ k44 => ?_)
      have k46 := atp.tg k15 hq hu0 (by decide)
      have k47 := atp.tg k16 hq hu0 (by decide)
      have k48 := atp.tg k17 hq hu0 (by decide)
      have k49 := atp.tg k18 hq hu0 (by decide)
      have k50 := atp.tg k19 hq htq (by decide)
      have k52 := atp.tg kpu0_3f13 hq hu0 (by decide)
      refine lv_aload_n hx hb dX11_readsStep_42 rfl (lv_at hl 3 rfl) ?_
      obtain ⟨_, r53⟩ := t_rec tf43 hu0 (by decide) wf_60
      refine k_i (r_V C h hl (As := []) (rest := []) (s_X11_isDigitX l D G b0 τ f43 tf43 u0 hu0 ln hln k46 aa1_f13 ipu0_3f13 k52 tq htq k47 rt k50 B hB) r53 (Cn := RX11) (T := TX11) (N := 32) rfl rfl mk_X11_isDigit w_1587 w_1589 w_45 w_1590 ⟨Nat.le_of_ble_eq_true rfl, Nat.le_of_ble_eq_true rfl⟩ rfl (Nat.le_of_ble_eq_true rfl) ⟨Nat.le_of_ble_eq_true rfl, Nat.le_of_ble_eq_true rfl⟩ rfl dX11_readsStep_43) h (fun r54 f55 H locs p56 h => ?_)
      obtain ⟨ir54, tf55, ogf55, cnr54, czr54, ⟨aa1_f55, kpu0_3f55, ipu0_3f55, rpu0_3f55⟩⟩ := p56
      have of55 : Fr [60, 62, 60004, 60005] τ f f55 := Fr.tr of43 ogf55 (by decide) (by decide)
      have k57 := atp.fk k46 ogf55 hu0 (by decide) (by decide)
      have k58 := atp.fk k47 ogf55 hu0 (by decide) (by decide)
      have k59 := atp.fk k48 ogf55 hu0 (by decide) (by decide)
      have k60 := atp.fk k49 ogf55 hu0 (by decide) (by decide)
      have k61 := atp.fr k50 ogf55 htq (by decide)
      have k62 := atp.fr k44 ogf55 hdq (by decide)
      have eK63 : rn 32 32 B ln.toInt.toNat aa1_f13.toInt.toNat = (rn 32 32 B ln.toInt.toNat (te B ln.toInt.toNat (rn 32 32 B ln.toInt.toNat aa.toInt.toNat))) := by rw [show aa1_f13.toInt.toNat = (te B ln.toInt.toNat (rn 32 32 B ln.toInt.toNat aa.toInt.toNat)) by omega]
      rw [eK63] at cnr54 czr54 rpu0_3f55
      refine lv_if_eq (tgt := 60) hx hb dX11_readsStep_46 (by decide) (fun c64 => ?_) (fun c64 => ?_)
      · have c65 : r54.toInt = 0 := congrArg Int32.toInt c64
        have i66 : iv r54 0 0 := iv_Q c65 ir54 (iv_k (x := 0) (k := 0) rfl) (by decide)
        have i67 := czr54 c65
        exact u_vret C h hr hQ (⟨tf55, of55, ⟨aa1_f55, fa, R45, ⟨kpu0_3f55, ipu0_3f55⟩, ⟨k59, (iv_w hfa (by decide))⟩, k62, (by
            have hq1 := te_le (B := B) hy.1.1
            have hq2 := rn_le (lo := 32) (hi := 32) (B := B) hq1
            have hq3 := rn_le (lo := 48) (hi := 57) (B := B) hq2
            have hS := stp_iv B (rn 32 32 B ln.toInt.toNat aa.toInt.toNat) (te B ln.toInt.toNat (rn 32 32 B ln.toInt.toNat aa.toInt.toNat))
            have hg := te_gt B ln.toInt.toNat (rn 32 32 B ln.toInt.toNat aa.toInt.toNat)
            have hr1 := rn_ge (lo := 32) (hi := 32) (B := B) (L := ln.toInt.toNat) (te B ln.toInt.toNat (rn 32 32 B ln.toInt.toNat aa.toInt.toNat))
            have hr0 := rn_ge (lo := 32) (hi := 32) (B := B) (L := ln.toInt.toNat) aa.toInt.toNat
            have hr2 := rn_ge (lo := 48) (hi := 57) (B := B) (L := ln.toInt.toNat) (rn 32 32 B ln.toInt.toNat (te B ln.toInt.toNat (rn 32 32 B ln.toInt.toNat aa.toInt.toNat)))
            have eA : aa1_f55.toInt.toNat = (rn 32 32 B ln.toInt.toNat (te B ln.toInt.toNat (rn 32 32 B ln.toInt.toNat aa.toInt.toNat))) := by omega
            refine ⟨fun k hk => by rw [erR45, upd_off (by omega)], fun _ => ⟨by omega, by omega, rst_i 1 (stpn B (rn 32 32 B ln.toInt.toNat aa.toInt.toNat) (te B ln.toInt.toNat (rn 32 32 B ln.toInt.toNat aa.toInt.toNat))).toNat (upi w (stpn B (rn 32 32 B ln.toInt.toNat aa.toInt.toNat) (te B ln.toInt.toNat (rn 32 32 B ln.toInt.toNat aa.toInt.toNat))).toNat 1) (fun k hk => ?_) (Or.inl rfl) (fun _ => ?_) ?_⟩, fun z_ => absurd (show fa.toInt = -1 by omega) z_⟩
            · by_cases q_ : k = (stpn B (rn 32 32 B ln.toInt.toNat aa.toInt.toNat) (te B ln.toInt.toNat (rn 32 32 B ln.toInt.toNat aa.toInt.toNat))).toNat
              · rw [erR45, upd_at (by omega), upi_at q_]; exact ⟨rfl, by decide, by decide⟩
              · rw [erR45, upd_off (by omega), upi_off q_]; exact hw k hk
            · rw [eA, rn_rn]; omega
            · rw [eA, run_sk aa.toInt.toNat, rs_ok hbb (by omega) (by omega) (by omega) (by omega)])⟩⟩) (Nat.le_of_ble_eq_true rfl) (Nat.le_of_ble_eq_true rfl) dX11_readsStep_60
      · have c68 : r54.toInt ≠ 0 := fun z_ => c64 (Int32.toInt_inj.mp z_)
        have i69 : iv r54 1 1 := iv_Nl c68 ir54 (by decide)
        have i70 := cnr54 c68
        refine lv_aload_n hx hb dX11_readsStep_49 rfl (lv_at hl 3 rfl) ?_
        refine t_getfd C h tf55 hu0 (by decide) wf_60 (v := .ref dq) k60 fl_X11_13 dX11_readsStep_50 ?_
        refine lv_iload_n hx hb dX11_readsStep_53 rfl (lv_at hl 0 rfl) ?_
        refine lv_aload_n hx hb dX11_readsStep_54 rfl (lv_at hl 3 rfl) ?_
        refine lv_iconst (v := 1) hx hb dX11_readsStep_55 (by decide) ?_
        obtain ⟨_, r71⟩ := t_rec tf55 hu0 (by decide) wf_60
        refine k_i (r_V C h hl (As := [.int 1]) (rest := [.int r12, .ref dq]) (s_X11_digitX l D G b0 τ f55 tf55 u0 hu0 1 (iv_w (iv_k (x := 1) (k := 1) rfl) (by decide)) ln hln k57 aa1_f55 ipu0_3f55 kpu0_3f55 tq htq k58 fa (iv_w hfa (by decide)) k59 rt k61 B hB) r71 (Cn := RX11) (T := TX11) (N := 32) rfl rfl mk_X11_digit w_1591 w_1593 w_46 w_1594 ⟨Nat.le_of_ble_eq_true rfl, Nat.le_of_ble_eq_true rfl⟩ rfl (Nat.le_of_ble_eq_true rfl) ⟨Nat.le_of_ble_eq_true rfl, Nat.le_of_ble_eq_true rfl⟩ rfl dX11_readsStep_56) h (fun r72 f73 H locs p74 h => ?_)
        have n75 : (1 : Int32).toInt = 1 := rfl
        obtain ⟨ir72, tf73, ogf73, x0r72, ⟨aa1_f73, kpu0_3f73, ipu0_3f73, rpu0_3f73⟩, ⟨fa1_f73, kpu0_4f73, ipu0_4f73, rpu0_4f73⟩⟩ := p74
        have x0r72 : (((rn 48 57 B ln.toInt.toNat (rn 32 32 B ln.toInt.toNat aa1_f55.toInt.toNat)) = (rn 32 32 B ln.toInt.toNat aa1_f55.toInt.toNat) + 1 → r72.toInt = B (rn 32 32 B ln.toInt.toNat aa1_f55.toInt.toNat) - 48) ∧ ((rn 48 57 B ln.toInt.toNat (rn 32 32 B ln.toInt.toNat aa1_f55.toInt.toNat)) ≠ (rn 32 32 B ln.toInt.toNat aa1_f55.toInt.toNat) + 1 → r72.toInt = -1)) := x0r72
        have of73 : Fr [60, 62, 60004, 60005] τ f f73 := Fr.tr of55 ogf73 (by decide) (by decide)
        have k76 := atp.fk k57 ogf73 hu0 (by decide) (by decide)
        have k77 := atp.fk k58 ogf73 hu0 (by decide) (by decide)
        have k78 := atp.fk k60 ogf73 hu0 (by decide) (by decide)
        have k79 := atp.fr k61 ogf73 htq (by decide)
        have k80 := atp.fr k62 ogf73 hdq (by decide)
        have eK81 : rn 32 32 B ln.toInt.toNat aa1_f55.toInt.toNat = (rn 32 32 B ln.toInt.toNat (te B ln.toInt.toNat (rn 32 32 B ln.toInt.toNat aa.toInt.toNat))) := by rw [show aa1_f55.toInt.toNat = (rn 32 32 B ln.toInt.toNat (te B ln.toInt.toNat (rn 32 32 B ln.toInt.toNat aa.toInt.toNat))) by omega]; exact rn_rn _
        rw [eK81] at x0r72 rpu0_3f73 rpu0_4f73
        refine e_iast C h tf73 of73 hdq (by decide) (by decide) wf_62 fw_62 k80 (iv_in i26 (by decide)) (iv_w ir72 (by decide)) dX11_readsStep_59 (fun R84 f82 erR84 H locs h tf82 of82 hq hn_ k83 => ?_)
        have k85 := atp.tg k76 hq hu0 (by decide)
        have k86 := atp.tg k77 hq hu0 (by decide)
        have k87 := atp.tg k78 hq hu0 (by decide)
        have k88 := atp.tg k79 hq htq (by decide)
        have k90 := atp.tg kpu0_3f73 hq hu0 (by decide)
        have k91 := atp.tg kpu0_4f73 hq hu0 (by decide)
        exact u_vret C h hr hQ (⟨tf82, of82, ⟨aa1_f73, fa1_f73, R84, ⟨k90, ipu0_3f73⟩, ⟨k91, ipu0_4f73⟩, k83, (by
            have hq1 := te_le (B := B) hy.1.1
            have hq2 := rn_le (lo := 32) (hi := 32) (B := B) hq1
            have hq3 := rn_le (lo := 48) (hi := 57) (B := B) hq2
            have hS := stp_iv B (rn 32 32 B ln.toInt.toNat aa.toInt.toNat) (te B ln.toInt.toNat (rn 32 32 B ln.toInt.toNat aa.toInt.toNat))
            have hg := te_gt B ln.toInt.toNat (rn 32 32 B ln.toInt.toNat aa.toInt.toNat)
            have hr1 := rn_ge (lo := 32) (hi := 32) (B := B) (L := ln.toInt.toNat) (te B ln.toInt.toNat (rn 32 32 B ln.toInt.toNat aa.toInt.toNat))
            have hr0 := rn_ge (lo := 32) (hi := 32) (B := B) (L := ln.toInt.toNat) aa.toInt.toNat
            have hr2 := rn_ge (lo := 48) (hi := 57) (B := B) (L := ln.toInt.toNat) (rn 32 32 B ln.toInt.toNat (te B ln.toInt.toNat (rn 32 32 B ln.toInt.toNat aa.toInt.toNat)))
            have eA : aa1_f73.toInt.toNat = (rn 48 57 B ln.toInt.toNat (rn 32 32 B ln.toInt.toNat (te B ln.toInt.toNat (rn 32 32 B ln.toInt.toNat aa.toInt.toNat)))) := by omega
            by_cases q9 : (rn 48 57 B ln.toInt.toNat (rn 32 32 B ln.toInt.toNat (te B ln.toInt.toNat (rn 32 32 B ln.toInt.toNat aa.toInt.toNat)))) = (rn 32 32 B ln.toInt.toNat (te B ln.toInt.toNat (rn 32 32 B ln.toInt.toNat aa.toInt.toNat))) + 1 ∧ B (rn 32 32 B ln.toInt.toNat (te B ln.toInt.toNat (rn 32 32 B ln.toInt.toNat aa.toInt.toNat))) ≠ 48
            · refine ⟨fun k hk => by rw [erR84, upd_off (by omega), erR45, upd_off (by omega)], fun _ => ⟨by omega, by omega, rst_i 2 (stpn B (rn 32 32 B ln.toInt.toNat aa.toInt.toNat) (te B ln.toInt.toNat (rn 32 32 B ln.toInt.toNat aa.toInt.toNat))).toNat (upi (upi w (stpn B (rn 32 32 B ln.toInt.toNat aa.toInt.toNat) (te B ln.toInt.toNat (rn 32 32 B ln.toInt.toNat aa.toInt.toNat))).toNat 1) (stpn B (rn 32 32 B ln.toInt.toNat aa.toInt.toNat) (te B ln.toInt.toNat (rn 32 32 B ln.toInt.toNat aa.toInt.toNat))).toNat (B (rn 32 32 B ln.toInt.toNat (te B ln.toInt.toNat (rn 32 32 B ln.toInt.toNat aa.toInt.toNat))) - 48)) (fun k hk => ?_) (Or.inr rfl) (fun z_ => absurd z_ (by decide)) ?_⟩, fun z_ => absurd (by omega) z_⟩
              · by_cases q_ : k = (stpn B (rn 32 32 B ln.toInt.toNat aa.toInt.toNat) (te B ln.toInt.toNat (rn 32 32 B ln.toInt.toNat aa.toInt.toNat))).toNat
                · rw [erR84, upd_at (by omega), upi_at q_]; omega
                · rw [erR84, upd_off (by omega), erR45, upd_off (by omega), upi_off q_, upi_off q_]; exact hw k hk
              · rw [eA, run_sk aa.toInt.toNat, rs_ok hbb (by omega) (by omega) (by omega) (by omega), rs_dig (by omega) (by omega) q9.1 q9.2]
            · refine ⟨fun k hk => by rw [erR84, upd_off (by omega), erR45, upd_off (by omega)], fun z_ => absurd z_ (by omega), fun _ => ?_⟩
              rw [run_sk aa.toInt.toNat, rs_ok hbb (by omega) (by omega) (by omega) (by omega), rs_digN (by omega) (by omega) q9]; omega)⟩⟩) (Nat.le_of_ble_eq_true rfl) (Nat.le_of_ble_eq_true rfl) dX11_readsStep_60
    · have c41 : 0 < z37.toInt := Int32.lt_iff_toInt_lt.mp (iv_nle c38)
      have i42 : iv z37 1 2147483647 := iv_Lr c41 (iv_k (x := 0) (k := 0) rfl) iz37 (by decide)
      refine lv_aload_n hx hb dX11_readsStep_29 rfl (lv_at hl 3 rfl) ?_
      refine lv_iload_n hx hb dX11_readsStep_30 rfl (lv_at hl 1 rfl) ?_
      obtain ⟨_, r92⟩ := t_rec tf13 hu0 (by decide) wf_60
      refine k_v (r_V C h hl (As := [.int aa1_f3]) (rest := []) (s_X11_failsX l D G b0 τ f13 tf13 u0 hu0 aa1_f3 ipu0_3f3 fa (iv_w hfa (by decide)) k17) r92 (Cn := RX11) (T := TX11) (N := 32) rfl rfl mk_X11_fails w_1583 w_1585 w_44 w_1586 ⟨Nat.le_of_ble_eq_true rfl, Nat.le_of_ble_eq_true rfl⟩ rfl (Nat.le_of_ble_eq_true rfl) ⟨Nat.le_of_ble_eq_true rfl, Nat.le_of_ble_eq_true rfl⟩ rfl dX11_readsStep_31) h (fun f94 H locs p95 h => ?_)
      obtain ⟨tf94, ogf94, ⟨fa1_f94, kpu0_4f94, ipu0_4f94, rpu0_4f94⟩⟩ := p95
      have of94 : Fr [60, 62, 60004, 60005] τ f f94 := Fr.tr of13 ogf94 (by decide) (by decide)
      have k96 := atp.fk k15 ogf94 hu0 (by decide) (by decide)
      have k97 := atp.fk k16 ogf94 hu0 (by decide) (by decide)
      have k98 := atp.fk k18 ogf94 hu0 (by decide) (by decide)
      have k99 := atp.fr k19 ogf94 htq (by decide)
      have k100 := atp.fr k20 ogf94 hdq (by decide)
      have k101 := atp.fk kpu0_3f13 ogf94 hu0 (by decide) (by decide)
      exact u_vret C h hr hQ (⟨tf94, of94, ⟨aa1_f13, fa1_f94, rd, ⟨k101, ipu0_3f13⟩, ⟨kpu0_4f94, ipu0_4f94⟩, k100, (by
          have hr0 := rn_le (lo := 32) (hi := 32) (B := B) (L := ln.toInt.toNat) (i := aa.toInt.toNat) (by omega)
          refine ⟨fun k hk => rfl, fun z_ => absurd z_ (by omega), fun _ => ?_⟩
          rw [run_sk aa.toInt.toNat, rs_fail hbb hr0 (rn_stop _) hnx (fun a_ b_ c_ => by rw [hz2]; omega)]; omega)⟩⟩) (Nat.le_of_ble_eq_true rfl) (Nat.le_of_ble_eq_true rfl) dX11_readsStep_34
