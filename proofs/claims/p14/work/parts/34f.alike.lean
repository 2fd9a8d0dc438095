theorem dX11_alike_0 : decode cX11_alike 0 = .ok (.aload_n 0, 1) := by decide +kernel
theorem dX11_alike_1 : decode cX11_alike 1 = .ok (.iconst 0, 1) := by decide +kernel
theorem dX11_alike_2 : decode cX11_alike 2 = .ok (.putfield 75, 3) := by decide +kernel
theorem dX11_alike_5 : decode cX11_alike 5 = .ok (.aload_n 0, 1) := by decide +kernel
theorem dX11_alike_6 : decode cX11_alike 6 = .ok (.iload_n 1, 1) := by decide +kernel
theorem dX11_alike_7 : decode cX11_alike 7 = .ok (.invokevirtual 171, 3) := by decide +kernel
theorem dX11_alike_10 : decode cX11_alike 10 = .ok (.ifCond .ne 5, 3) := by decide +kernel
theorem dX11_alike_15 : decode cX11_alike 15 = .ok (.aload_n 0, 1) := by decide +kernel
theorem dX11_alike_16 : decode cX11_alike 16 = .ok (.iload_n 1, 1) := by decide +kernel
theorem dX11_alike_17 : decode cX11_alike 17 = .ok (.iconst 0, 1) := by decide +kernel
theorem dX11_alike_18 : decode cX11_alike 18 = .ok (.iconst 0, 1) := by decide +kernel
theorem dX11_alike_19 : decode cX11_alike 19 = .ok (.bipush 20, 2) := by decide +kernel
theorem dX11_alike_21 : decode cX11_alike 21 = .ok (.aload_n 0, 1) := by decide +kernel
theorem dX11_alike_22 : decode cX11_alike 22 = .ok (.getfield 36, 3) := by decide +kernel
theorem dX11_alike_25 : decode cX11_alike 25 = .ok (.invokevirtual 272, 3) := by decide +kernel
theorem dX11_alike_28 : decode cX11_alike 28 = .ok (.iconst 0, 1) := by decide +kernel
theorem dX11_alike_29 : decode cX11_alike 29 = .ok (.istore_n 2, 1) := by decide +kernel
theorem dX11_alike_13 : decode cX11_alike 13 = .ok (.iconst (-1), 1) := by decide +kernel
theorem dX11_alike_30 : decode cX11_alike 30 = .ok (.aload_n 0, 1) := by decide +kernel
theorem dX11_alike_31 : decode cX11_alike 31 = .ok (.iload_n 1, 1) := by decide +kernel
theorem dX11_alike_32 : decode cX11_alike 32 = .ok (.iload_n 2, 1) := by decide +kernel
theorem dX11_alike_33 : decode cX11_alike 33 = .ok (.invokevirtual 364, 3) := by decide +kernel
theorem w_1924 : Cond.methodLink "QuarterWalksModel" 364 yX11_areAlike ∈ wAll := wI8 149 (by decide +kernel) (by decide +kernel)
theorem w_76 : Cond.selects yX11_areAlike.cls yX11_areAlike yX11_areAlike ∈ wAll := wIn 76 (by decide +kernel) (by decide +kernel)
theorem mk_X11_areAlike : mk yX11_areAlike 2 := ⟨by decide +kernel, w_110⟩
theorem w_1926 : Cond.instanceMethod yX11_areAlike ∈ wAll := wI8 151 (by decide +kernel) (by decide +kernel)
theorem w_1927 : Cond.code yX11_areAlike cX11_areAlike 4 (some .boolean) ∈ wAll := wI8 152 (by decide +kernel) (by decide +kernel)
theorem dX11_alike_36 : decode cX11_alike 36 = .ok (.ifCond .ne 9, 3) := by decide +kernel
theorem dX11_alike_45 : decode cX11_alike 45 = .ok (.iload_n 2, 1) := by decide +kernel
theorem dX11_alike_39 : decode cX11_alike 39 = .ok (.iinc 2 1, 3) := by decide +kernel
theorem dX11_alike_42 : decode cX11_alike 42 = .ok (.goto (-12), 3) := by decide +kernel
theorem dX11_alike_46 : decode cX11_alike 46 = .ok (.ireturn, 1) := by decide +kernel
theorem dX11_alike_14 : decode cX11_alike 14 = .ok (.ireturn, 1) := by decide +kernel
abbrev rm_s_X11_alikeX : Room := { frames := 5, cells := 0, slots := 0, locals := 123 }
set_option maxRecDepth 100000 in
set_option maxHeartbeats 4000000 in
theorem s_X11_alikeX (l : Launch) (D : va_G) (G : Nat → Nat) (b0 : Nat) (τ : Nat → Nat) (f : hM) (t : TI G 9 τ f) (u0 : Nat) (hu0 : τ u0 = 60) (u1 : Int32) (hu1 : iv u1 (-2147483648) 2147483647) (bq : Nat) (hbq : τ bq = 63) (k_u0_6 : atp f u0 (fd 6 (.ref bq))) (tm : Nat) (htm : τ tm = 69) (k_u0_15 : atp f u0 (fd 15 (.ref tm))) (ot : Nat) (hot : τ ot = 78) (k_u0_16 : atp f u0 (fd 16 (.ref ot))) (rb : Nat → Int32) (hRbq : atp f bq (eqc (.inl (G 1, 81, .inl rb)))) (rt : Nat → Int32) (hRtm : atp f tm (eqc (.inl (G 1, 61, .inl rt)))) (ro : Nat → Int32) (hRot : atp f ot (eqc (.inl (G 1, 61, .inl ro)))) (hNG : NGs τ f u0) : mI l yX11_alike cX11_alike 3 (.int) rm_s_X11_alikeX D G b0 f [.ref u0, .int u1] (fun r f1 => iv r (-1) 7 ∧ TI G 9 τ f1 ∧ Fr [60, 67, 69, 78, 60001, 60013, 60014, 60015] τ f f1 ∧ NGs τ f1 u0) := by
  refine met2 (own := RX11) (by decide) rfl (Nat.le_of_ble_eq_true rfl) ?_
  intro p e s m args below meth c ls Q hQ C hr hini hl h
  have hl : lv_has ls 3 [(0, .ref u0), (1, .int u1)] := hl
  obtain ⟨hx, hb, hml, hown, hts, hE0, hlk⟩ := id C
  have o := Fr.rf [60, 67, 69, 78, 60001, 60013, 60014, 60015] τ f
  have L30 : ∀ (n30 : Nat) (ls : Array Slot) (f_30 : hM) (H : Heap) (locs : List Loc) (v30_2 : Int32) (g30_tm_R : Nat → Int32), 7 - v30_2.toInt < (n30 : Int) → lv_has ls 3 [(0, .ref u0), (1, .int u1), (2, .int v30_2)] → hw D b0 s.heap f_30 H locs → TI G 9 τ f_30 → Fr [60, 67, 69, 78, 60001, 60013, 60014, 60015] τ f f_30 → iv u1 0 7 → iv v30_2 0 7 → atp f_30 u0 (fd 6 (.ref bq)) → atp f_30 u0 (fd 15 (.ref tm)) → atp f_30 u0 (fd 16 (.ref ot)) → atp f_30 bq (eqc (.inl (G 1, 81, .inl rb))) → NGs τ f_30 u0 → atp f_30 tm (eqc (.inl (G 1, 61, .inl g30_tm_R))) → v30_2.toInt ≤ u1.toInt ∧ 0 ≤ u1.toInt ∧ u1.toInt ≤ 7 → (∀ n : Nat, n ≤ 20 → g30_tm_R n = smf rb u1.toInt 0 n (gN rb u1.toInt 0 1 n)) → W p l e rm_s_X11_alikeX s m args below meth c H locs 0 0 Q (F0 m 30 ls []) := by
    intro n30
    induction n30 with
    | zero => intro ls f_30 H locs v30_2 g30_tm_R hm30 hl h t_30 o_30 jv30_1 iv30_2 k30_u0_6 k30_u0_15 k30_u0_16 k30_bq_R k30_u0_NG k30_tm_R hv30_0 hv30_1; exact absurd hm30 (by omega)
    | succ n30 ih30 =>
      intro ls f_30 H locs v30_2 g30_tm_R hm30 hl h t_30 o_30 jv30_1 iv30_2 k30_u0_6 k30_u0_15 k30_u0_16 k30_bq_R k30_u0_NG k30_tm_R hv30_0 hv30_1
      refine lv_aload_n hx hb dX11_alike_30 rfl (lv_at hl 0 rfl) ?_
      refine lv_iload_n hx hb dX11_alike_31 rfl (lv_at hl 1 rfl) ?_
      refine lv_iload_n hx hb dX11_alike_32 rfl (lv_at hl 2 rfl) ?_
      obtain ⟨ez_, hz1_, hz2_⟩ := t_30.at hot (by decide)
      obtain ⟨rz_, rfl, -⟩ := wf_78 _ hz2_
      have hrz_ : atp f_30 ot (eqc (.inl (G 1, 61, .inl rz_))) := ⟨_, hz1_, rfl⟩
      obtain ⟨_, r1⟩ := t_rec t_30 hu0 (by decide) wf_60
      refine k_i (r_V C h hl (As := [.int u1, .int v30_2]) (rest := []) (s_X11_areAlikeX l D G b0 τ f_30 t_30 u0 hu0 u1 (iv_w jv30_1 (by decide)) v30_2 iv30_2 bq hbq k30_u0_6 tm htm k30_u0_15 ot hot k30_u0_16 rb k30_bq_R g30_tm_R k30_tm_R rz_ hrz_ k30_u0_NG) r1 (Cn := RX11) (T := TX11) (N := 32) rfl rfl mk_X11_areAlike w_1924 w_1926 w_76 w_1927 ⟨Nat.le_of_ble_eq_true rfl, Nat.le_of_ble_eq_true rfl⟩ rfl (Nat.le_of_ble_eq_true rfl) ⟨Nat.le_of_ble_eq_true rfl, Nat.le_of_ble_eq_true rfl⟩ rfl dX11_alike_33) h (fun r2 f3 H locs p4 h => ?_)
      obtain ⟨ir2, tf3, ogf3, cnr2, czr2, ngf3⟩ := p4
      have of3 : Fr [60, 67, 69, 78, 60001, 60013, 60014, 60015] τ f f3 := Fr.tr o_30 ogf3 (by decide) (by decide)
      have k5 := atp.fk k30_u0_6 ogf3 hu0 (by decide) (by decide)
      have k6 := atp.fk k30_u0_15 ogf3 hu0 (by decide) (by decide)
      have k7 := atp.fk k30_u0_16 ogf3 hu0 (by decide) (by decide)
      have k8 := atp.fr k30_bq_R ogf3 hbq (by decide)
      have k9 := atp.fr k30_tm_R ogf3 htm (by decide)
      refine lv_if_ne (tgt := 45) hx hb dX11_alike_36 (by decide) (fun c10 => ?_) (fun c10 => ?_)
      · have c11 : r2.toInt ≠ 0 := fun z_ => c10 (Int32.toInt_inj.mp z_)
        have i12 : iv r2 1 1 := iv_Nl c11 ir2 (by decide)
        have i13 := cnr2 c11
        refine lv_iload_n hx hb dX11_alike_45 rfl (lv_at hl 2 rfl) ?_
        exact u_iret C h hr hQ (⟨(iv_w iv30_2 (by decide)), tf3, of3, ngf3⟩) (Nat.le_of_ble_eq_true rfl) (Nat.le_of_ble_eq_true rfl) dX11_alike_46
      · have c14 : r2.toInt = 0 := congrArg Int32.toInt c10
        have i15 : iv r2 0 0 := iv_Q c14 ir2 (iv_k (x := 0) (k := 0) rfl) (by decide)
        have i16 := czr2 c14
        have hne_ : v30_2.toInt ≠ u1.toInt := fun z_ => i16 (fun n hn => by rw [z_]; exact hv30_1 n hn)
        refine i_inc hx hb dX11_alike_39 hl (k := 2) rfl iv30_2 rfl (lo := 1) (hi := 8) (by decide) (by decide) (lv' := fun v => [(2, .int v), (0, .ref u0), (1, .int u1)]) (fun _ => rfl) (fun z17 ls ez17 mz17 iz17 hl => ?_)
        refine lv_goto (tgt := 30) hx hb dX11_alike_42 (by decide) ?_
        exact ih30 ls f3 H locs z17 g30_tm_R (show 7 - z17.toInt < _ by omega) (lv_cons hl 1 rfl (lv_cons hl 2 rfl (lv_cons hl 0 rfl (lv_nil hl)))) h tf3 of3 jv30_1 (show iv z17 0 7 from by omega) k5 k6 k7 k8 ngf3 k9 (show z17.toInt ≤ u1.toInt ∧ 0 ≤ u1.toInt ∧ u1.toInt ≤ 7 by omega) (show ∀ n : Nat, n ≤ 20 → g30_tm_R n = smf rb u1.toInt 0 n (gN rb u1.toInt 0 1 n) from hv30_1)
  refine lv_aload_n hx hb dX11_alike_0 rfl (lv_at hl 0 rfl) ?_
  refine lv_iconst (v := 0) hx hb dX11_alike_1 (by decide) ?_
  refine t_put C h t o hu0 (by decide) (by decide) (by decide) wf_60 fw_60 (k := 0) rfl flw_X11_75 (Or.inr ⟨_, _, _, rfl, rfl⟩) (v := .int 0) rfl rfl ⟨_, rfl, ⟨by decide, by decide⟩⟩ dX11_alike_2 (fun f18 H locs h tf18 of18 hq ha_ hn_ hk_ => ?_)
  have k19 := hk_ 6 _ (by decide) k_u0_6
  have k20 := hk_ 15 _ (by decide) k_u0_15
  have k21 := hk_ 16 _ (by decide) k_u0_16
  have k22 := atp.tg hRbq hq hbq (by decide)
  have k23 := atp.tg hRtm hq htm (by decide)
  have k24 := atp.tg hRot hq hot (by decide)
  have k25 := NGs.pk hNG hk_ (by decide) (by decide)
  have k26 := ha_
  refine lv_aload_n hx hb dX11_alike_5 rfl (lv_at hl 0 rfl) ?_
  refine lv_iload_n hx hb dX11_alike_6 rfl (lv_at hl 1 rfl) ?_
  obtain ⟨_, r27⟩ := t_rec tf18 hu0 (by decide) wf_60
  refine k_i (r_V C h hl (As := [.int u1]) (rest := []) (s_X11_isSetX l D G b0 τ f18 tf18 u0 hu0 u1 hu1 bq hbq k19 rb k22) r27 (Cn := RX11) (T := TX11) (N := 32) rfl rfl mk_X11_isSet w_1620 w_1622 w_51 w_1623 ⟨Nat.le_of_ble_eq_true rfl, Nat.le_of_ble_eq_true rfl⟩ rfl (Nat.le_of_ble_eq_true rfl) ⟨Nat.le_of_ble_eq_true rfl, Nat.le_of_ble_eq_true rfl⟩ rfl dX11_alike_7) h (fun r28 f29 H locs p30 h => ?_)
  obtain ⟨ir28, tf29, ogf29, cnr28, czr28⟩ := p30
  have egf29 := Fr.nil2 ogf29
  subst egf29
  refine lv_if_ne (tgt := 15) hx hb dX11_alike_10 (by decide) (fun c31 => ?_) (fun c31 => ?_)
  · have c32 : r28.toInt ≠ 0 := fun z_ => c31 (Int32.toInt_inj.mp z_)
    have i33 : iv r28 1 1 := iv_Nl c32 ir28 (by decide)
    obtain ⟨i34, i35⟩ := cnr28 c32
    refine lv_aload_n hx hb dX11_alike_15 rfl (lv_at hl 0 rfl) ?_
    refine lv_iload_n hx hb dX11_alike_16 rfl (lv_at hl 1 rfl) ?_
    refine lv_iconst (v := 0) hx hb dX11_alike_17 (by decide) ?_
    refine lv_iconst (v := 0) hx hb dX11_alike_18 (by decide) ?_
    refine lv_bipush (v := 20) hx hb dX11_alike_19 (by decide) ?_
    refine lv_aload_n hx hb dX11_alike_21 rfl (lv_at hl 0 rfl) ?_
    refine t_getfd C h tf18 hu0 (by decide) wf_60 (v := .ref tm) k20 fl_X11_36 dX11_alike_22 ?_
    obtain ⟨_, r39⟩ := t_rec tf18 hu0 (by decide) wf_60
    refine k_v (r_V C h hl (As := [.int u1, .int 0, .int 0, .int 20, .ref tm]) (rest := []) (s_X11_laysTermsX l D G b0 τ f18 tf18 u0 hu0 u1 i34 0 (iv_w (iv_k (x := 0) (k := 0) rfl) (by decide)) 0 (iv_w (iv_k (x := 0) (k := 0) rfl) (by decide)) 20 (iv_w (iv_k (x := 20) (k := 20) rfl) (by decide)) tm htm bq hbq k19 rb k22 rt k23 k25) r39 (Cn := RX11) (T := TX11) (N := 32) rfl rfl mk_X11_laysTerms w_1757 w_1759 w_64 w_1760 ⟨Nat.le_of_ble_eq_true rfl, Nat.le_of_ble_eq_true rfl⟩ rfl (Nat.le_of_ble_eq_true rfl) ⟨Nat.le_of_ble_eq_true rfl, Nat.le_of_ble_eq_true rfl⟩ rfl dX11_alike_25) h (fun f41 H locs p42 h => ?_)
    obtain ⟨tf41, ogf41, ⟨rt1_f41, kRu5f41, pRu5f41⟩, ngf41⟩ := p42
    have of41 : Fr [60, 67, 69, 78, 60001, 60013, 60014, 60015] τ f f41 := Fr.tr of18 ogf41 (by decide) (by decide)
    have k43 := atp.fk k19 ogf41 hu0 (by decide) (by decide)
    have k44 := atp.fk k20 ogf41 hu0 (by decide) (by decide)
    have k45 := atp.fk k21 ogf41 hu0 (by decide) (by decide)
    have k46 := atp.fr k22 ogf41 hbq (by decide)
    have k47 := atp.fr k24 ogf41 hot (by decide)
    refine lv_iconst (v := 0) hx hb dX11_alike_28 (by decide) ?_
    refine lv_istore_n (lv' := [(2, .int 0), (0, .ref u0), (1, .int u1)]) hx hb dX11_alike_29 rfl hl (by decide) rfl (fun ls hl => ?_)
    exact L30 8 ls f41 H locs 0 rt1_f41 (by decide) (lv_cons hl 1 rfl (lv_cons hl 2 rfl (lv_cons hl 0 rfl (lv_nil hl)))) h tf41 of41 i34 ⟨by decide, by decide⟩ k43 k44 k45 k46 ngf41 kRu5f41 (show 0 ≤ u1.toInt ∧ 0 ≤ u1.toInt ∧ u1.toInt ≤ 7 by omega) (show ∀ n : Nat, n ≤ 20 → rt1_f41 n = smf rb u1.toInt 0 n (gN rb u1.toInt 0 1 n) from (fun n hn => pRu5f41 n (by have n_ : (20 : Int32).toInt = 20 := rfl; omega)))
  · have c36 : r28.toInt = 0 := congrArg Int32.toInt c31
    have i37 : iv r28 0 0 := iv_Q c36 ir28 (iv_k (x := 0) (k := 0) rfl) (by decide)
    have i38 := czr28 c36
    refine lv_iconst (v := -1) hx hb dX11_alike_13 (by decide) ?_
    exact u_iret C h hr hQ (⟨⟨by decide, by decide⟩, tf18, of18, k25⟩) (Nat.le_of_ble_eq_true rfl) (Nat.le_of_ble_eq_true rfl) dX11_alike_14
