theorem dX11_here_0 : decode cX11_here 0 = .ok (.aload_n 0, 1) := by decide +kernel
theorem dX11_here_1 : decode cX11_here 1 = .ok (.getfield 90, 3) := by decide +kernel
theorem w_1436 : Cond.fieldLink "QuarterWalksModel" 90 "QuarterWalksModel" "at" "I" ∈ wAll := wIn 1436 (by decide +kernel) (by decide +kernel)
theorem fl_X11_90 : fl RX11 90 12 3 := ⟨RX11, TX11, 32, rfl, inA_X11, by decide, w_1436⟩
theorem dX11_here_4 : decode cX11_here 4 = .ok (.aload_n 0, 1) := by decide +kernel
theorem dX11_here_5 : decode cX11_here 5 = .ok (.getfield 79, 3) := by decide +kernel
theorem dX11_here_8 : decode cX11_here 8 = .ok (.if_icmp .ge 19, 3) := by decide +kernel
theorem dX11_here_27 : decode cX11_here 27 = .ok (.iconst (-1), 1) := by decide +kernel
theorem dX11_here_11 : decode cX11_here 11 = .ok (.aload_n 0, 1) := by decide +kernel
theorem dX11_here_12 : decode cX11_here 12 = .ok (.getfield 9, 3) := by decide +kernel
theorem dX11_here_15 : decode cX11_here 15 = .ok (.aload_n 0, 1) := by decide +kernel
theorem dX11_here_16 : decode cX11_here 16 = .ok (.getfield 90, 3) := by decide +kernel
theorem dX11_here_19 : decode cX11_here 19 = .ok (.baload, 1) := by decide +kernel
theorem dX11_here_20 : decode cX11_here 20 = .ok (.sipush 255, 3) := by decide +kernel
theorem dX11_here_23 : decode cX11_here 23 = .ok (.iand, 1) := by decide +kernel
theorem dX11_here_24 : decode cX11_here 24 = .ok (.goto 4, 3) := by decide +kernel
theorem dX11_here_28 : decode cX11_here 28 = .ok (.ireturn, 1) := by decide +kernel
theorem dX11_look_0 : decode cX11_look 0 = .ok (.aload_n 0, 1) := by decide +kernel
theorem dX11_look_1 : decode cX11_look 1 = .ok (.invokevirtual 93, 3) := by decide +kernel
theorem w_1561 : Cond.methodLink "QuarterWalksModel" 93 yX11_here ∈ wAll := wIn 1561 (by decide +kernel) (by decide +kernel)
theorem w_41 : Cond.selects yX11_here.cls yX11_here yX11_here ∈ wAll := wIn 41 (by decide +kernel) (by decide +kernel)
theorem mk_X11_here : mk yX11_here 0 := ⟨by decide +kernel, w_110⟩
theorem w_1563 : Cond.instanceMethod yX11_here ∈ wAll := wIn 1563 (by decide +kernel) (by decide +kernel)
theorem w_1564 : Cond.code yX11_here cX11_here 1 (some .int) ∈ wAll := wIn 1564 (by decide +kernel) (by decide +kernel)
theorem dX11_look_4 : decode cX11_look 4 = .ok (.bipush 32, 2) := by decide +kernel
theorem dX11_look_6 : decode cX11_look 6 = .ok (.if_icmp .ne 16, 3) := by decide +kernel
theorem dX11_look_22 : decode cX11_look 22 = .ok (.aload_n 0, 1) := by decide +kernel
theorem dX11_look_23 : decode cX11_look 23 = .ok (.invokevirtual 93, 3) := by decide +kernel
theorem dX11_look_9 : decode cX11_look 9 = .ok (.aload_n 0, 1) := by decide +kernel
theorem dX11_look_10 : decode cX11_look 10 = .ok (.dup, 1) := by decide +kernel
theorem dX11_look_11 : decode cX11_look 11 = .ok (.getfield 90, 3) := by decide +kernel
theorem dX11_look_14 : decode cX11_look 14 = .ok (.iconst 1, 1) := by decide +kernel
theorem dX11_look_15 : decode cX11_look 15 = .ok (.iadd, 1) := by decide +kernel
theorem dX11_look_16 : decode cX11_look 16 = .ok (.putfield 90, 3) := by decide +kernel
theorem flw_X11_90 : flw RX11 90 12 3 (.int) := ⟨RX11, TX11, 32, tyX11, rfl, inA_X11, by decide, w_1436, tyX11_ok, nmX11, by decide +kernel, Or.inl rfl⟩
theorem dX11_look_19 : decode cX11_look 19 = .ok (.goto (-19), 3) := by decide +kernel
theorem dX11_look_26 : decode cX11_look 26 = .ok (.ireturn, 1) := by decide +kernel
theorem dX11_fails_0 : decode cX11_fails 0 = .ok (.aload_n 0, 1) := by decide +kernel
theorem dX11_fails_1 : decode cX11_fails 1 = .ok (.getfield 97, 3) := by decide +kernel
theorem w_1437 : Cond.fieldLink "QuarterWalksModel" 97 "QuarterWalksModel" "fault" "I" ∈ wAll := wIn 1437 (by decide +kernel) (by decide +kernel)
theorem fl_X11_97 : fl RX11 97 12 4 := ⟨RX11, TX11, 32, rfl, inA_X11, by decide, w_1437⟩
theorem dX11_fails_4 : decode cX11_fails 4 = .ok (.iconst (-1), 1) := by decide +kernel
theorem dX11_fails_5 : decode cX11_fails 5 = .ok (.if_icmp .ne 8, 3) := by decide +kernel
theorem dX11_fails_8 : decode cX11_fails 8 = .ok (.aload_n 0, 1) := by decide +kernel
theorem dX11_fails_9 : decode cX11_fails 9 = .ok (.iload_n 1, 1) := by decide +kernel
theorem dX11_fails_10 : decode cX11_fails 10 = .ok (.putfield 97, 3) := by decide +kernel
theorem flw_X11_97 : flw RX11 97 12 4 (.int) := ⟨RX11, TX11, 32, tyX11, rfl, inA_X11, by decide, w_1437, tyX11_ok, nmX11, by decide +kernel, Or.inl rfl⟩
theorem dX11_fails_13 : decode cX11_fails 13 = .ok (.return_, 1) := by decide +kernel
abbrev rm_s_X11_hereX : Room := { frames := 0, cells := 0, slots := 0, locals := 0 }
set_option maxRecDepth 100000 in
set_option maxHeartbeats 4000000 in
theorem s_X11_hereX (l : Launch) (D : va_G) (G : Nat → Nat) (b0 : Nat) (τ : Nat → Nat) (f : hM) (t : TI G 9 τ f) (u0 : Nat) (hu0 : τ u0 = 60) (ln : Int32) (hln : iv ln 0 200) (k_u0_2 : atp f u0 (fd 2 (.int ln))) (aa : Int32) (haa : iv aa 0 200) (k_u0_3 : atp f u0 (fd 3 (.int aa))) (tq : Nat) (htq : τ tq = 61) (k_u0_1 : atp f u0 (fd 1 (.ref tq))) (rt : Nat → Int32) (hRtq : atp f tq (eqc (.inl (G 0, 200, .inl rt)))) (B : Nat → Int) (hB : ∀ k : Nat, (k : Int) < ln.toInt → (rt k).toInt = sg (B k) ∧ 0 ≤ B k ∧ B k ≤ 255)  : mI l yX11_here cX11_here 1 (.int) rm_s_X11_hereX D G b0 f [.ref u0] (fun r f1 => iv r (-1) 255 ∧ TI G 9 τ f1 ∧ Fr [] τ f f1 ∧ (((((aa.toInt.toNat : Nat) : Int) < ln.toInt → r.toInt = B (aa.toInt.toNat)) ∧ (ln.toInt ≤ ((aa.toInt.toNat : Nat) : Int) → r.toInt = -1)))) := by
  refine met2 (own := RX11) (by decide) rfl (Nat.le_of_ble_eq_true rfl) ?_
  intro p e s m args below meth c ls Q hQ C hr hini hl h
  have hl : lv_has ls 1 [(0, .ref u0)] := hl
  obtain ⟨hx, hb, hml, hown, hts, hE0, hlk⟩ := id C
  have o := Fr.rf [] τ f
  refine lv_aload_n hx hb dX11_here_0 rfl (lv_at hl 0 rfl) ?_
  refine t_getfd C h t hu0 (by decide) wf_60 (v := .int aa) k_u0_3 fl_X11_90 dX11_here_1 ?_
  refine lv_aload_n hx hb dX11_here_4 rfl (lv_at hl 0 rfl) ?_
  refine t_getfd C h t hu0 (by decide) wf_60 (v := .int ln) k_u0_2 fl_X11_79 dX11_here_5 ?_
  refine lv_icmp_ge (tgt := 27) hx hb dX11_here_8 (by decide) (fun c1 => ?_) (fun c1 => ?_)
  · have c2 : ln.toInt ≤ aa.toInt := Int32.le_iff_toInt_le.mp c1
    refine lv_iconst (v := -1) hx hb dX11_here_27 (by decide) ?_
    exact u_iret C h hr hQ (⟨⟨by decide, by decide⟩, t, o, (by have n_ : (-1 : Int32).toInt = -1 := rfl; omega)⟩) (Nat.le_of_ble_eq_true rfl) (Nat.le_of_ble_eq_true rfl) dX11_here_28
  · have c3 : aa.toInt < ln.toInt := Int32.lt_iff_toInt_lt.mp (iv_nle c1)
    have i4 : iv aa 0 199 := iv_Ll c3 haa hln (by decide)
    have i5 : iv ln 1 200 := iv_Lr c3 haa hln (by decide)
    refine lv_aload_n hx hb dX11_here_11 rfl (lv_at hl 0 rfl) ?_
    refine t_getfd C h t hu0 (by decide) wf_60 (v := .ref tq) k_u0_1 fl_X11_9 dX11_here_12 ?_
    refine lv_aload_n hx hb dX11_here_15 rfl (lv_at hl 0 rfl) ?_
    refine t_getfd C h t hu0 (by decide) wf_60 (v := .int aa) k_u0_3 fl_X11_90 dX11_here_16 ?_
    refine e_bald C h t htq (by decide) wf_61 hRtq (iv_in i4 (by decide)) dX11_here_19 (fun z6 ez6 iz6 => ?_)
    have mz6 := congrArg Int32.toInt ez6
    refine lv_sipush (v := 255) hx hb dX11_here_20 (by decide) ?_
    refine lv_iand hx hb dX11_here_23 (i_top (iv_and (k := 255) rfl (by decide)) (fun z7 ez7 iz7 => ?_))
    refine lv_goto (tgt := 28) hx hb dX11_here_24 (by decide) ?_
    exact u_iret C h hr hQ (⟨(iv_w iz7 (by decide)), t, o, (by
        have h_ := hB aa.toInt.toNat (by omega)
        have e_ : z7.toInt = z6.toInt % 256 := by rw [ez7]; exact and255 z6
        have s_ := sg_mod h_.2
        rw [← h_.1, ← mz6] at s_
        omega)⟩) (Nat.le_of_ble_eq_true rfl) (Nat.le_of_ble_eq_true rfl) dX11_here_28
abbrev rm_s_X11_lookX : Room := { frames := 1, cells := 0, slots := 0, locals := 20 }
set_option maxRecDepth 100000 in
set_option maxHeartbeats 4000000 in
theorem s_X11_lookX (l : Launch) (D : va_G) (G : Nat → Nat) (b0 : Nat) (τ : Nat → Nat) (f : hM) (t : TI G 9 τ f) (u0 : Nat) (hu0 : τ u0 = 60) (ln : Int32) (hln : iv ln 0 200) (k_u0_2 : atp f u0 (fd 2 (.int ln))) (aa : Int32) (haa : iv aa 0 200) (k_u0_3 : atp f u0 (fd 3 (.int aa))) (tq : Nat) (htq : τ tq = 61) (k_u0_1 : atp f u0 (fd 1 (.ref tq))) (rt : Nat → Int32) (hRtq : atp f tq (eqc (.inl (G 0, 200, .inl rt)))) (B : Nat → Int) (hB : ∀ k : Nat, (k : Int) < ln.toInt → (rt k).toInt = sg (B k) ∧ 0 ≤ B k ∧ B k ≤ 255)  : mI l yX11_look cX11_look 1 (.int) rm_s_X11_lookX D G b0 f [.ref u0] (fun r f1 => iv r (-1) 255 ∧ TI G 9 τ f1 ∧ Fr [60, 60004] τ f f1 ∧ (((((rn 32 32 B ln.toInt.toNat aa.toInt.toNat : Nat) : Int) < ln.toInt → r.toInt = B (rn 32 32 B ln.toInt.toNat aa.toInt.toNat)) ∧ (ln.toInt ≤ ((rn 32 32 B ln.toInt.toNat aa.toInt.toNat : Nat) : Int) → r.toInt = -1))) ∧ (∃ aa1 : Int32, atp f1 u0 (fd 3 (.int aa1)) ∧ iv aa1 0 200 ∧ aa1.toInt = ((rn 32 32 B ln.toInt.toNat aa.toInt.toNat : Nat) : Int))) := by
  refine met2 (own := RX11) (by decide) rfl (Nat.le_of_ble_eq_true rfl) ?_
  intro p e s m args below meth c ls Q hQ C hr hini hl h
  have hl : lv_has ls 1 [(0, .ref u0)] := hl
  obtain ⟨hx, hb, hml, hown, hts, hE0, hlk⟩ := id C
  have o := Fr.rf [60, 60004] τ f
  have L0 : ∀ (n0 : Nat) (ls : Array Slot) (f_0 : hM) (H : Heap) (locs : List Loc) (g0_u0_3 : Int32), 200 - g0_u0_3.toInt < (n0 : Int) → lv_has ls 1 [(0, .ref u0)] → hw D b0 s.heap f_0 H locs → TI G 9 τ f_0 → Fr [60, 60004] τ f f_0 → iv g0_u0_3 0 200 → atp f_0 u0 (fd 2 (.int ln)) → atp f_0 u0 (fd 3 (.int g0_u0_3)) → atp f_0 u0 (fd 1 (.ref tq)) → atp f_0 tq (eqc (.inl (G 0, 200, .inl rt))) → (rn 32 32 B ln.toInt.toNat (Int.toNat (g0_u0_3.toInt)) = rn 32 32 B ln.toInt.toNat aa.toInt.toNat) → W p l e rm_s_X11_lookX s m args below meth c H locs 0 0 Q (F0 m 0 ls []) := by
    intro n0
    induction n0 with
    | zero => intro ls f_0 H locs g0_u0_3 hm0 hl h t_0 o_0 ig0_u0_3 k0_u0_2 k0_u0_3 k0_u0_1 k0_tq_R hv0_0; exact absurd hm0 (by omega)
    | succ n0 ih0 =>
      intro ls f_0 H locs g0_u0_3 hm0 hl h t_0 o_0 ig0_u0_3 k0_u0_2 k0_u0_3 k0_u0_1 k0_tq_R hv0_0
      refine lv_aload_n hx hb dX11_look_0 rfl (lv_at hl 0 rfl) ?_
      obtain ⟨_, r1⟩ := t_rec t_0 hu0 (by decide) wf_60
      refine k_i (r_V C h hl (As := []) (rest := []) (s_X11_hereX l D G b0 τ f_0 t_0 u0 hu0 ln hln k0_u0_2 g0_u0_3 ig0_u0_3 k0_u0_3 tq htq k0_u0_1 rt k0_tq_R B hB) r1 (Cn := RX11) (T := TX11) (N := 32) rfl rfl mk_X11_here w_1561 w_1563 w_41 w_1564 ⟨Nat.le_of_ble_eq_true rfl, Nat.le_of_ble_eq_true rfl⟩ rfl (Nat.le_of_ble_eq_true rfl) ⟨Nat.le_of_ble_eq_true rfl, Nat.le_of_ble_eq_true rfl⟩ rfl dX11_look_1) h (fun r2 f3 H locs p4 h => ?_)
      obtain ⟨ir2, tf3, ogf3, x0r2⟩ := p4
      have egf3 := Fr.nil2 ogf3
      subst egf3
      refine lv_bipush (v := 32) hx hb dX11_look_4 (by decide) ?_
      refine lv_icmp_ne (tgt := 22) hx hb dX11_look_6 (by decide) (fun c5 => ?_) (fun c5 => ?_)
      · have c6 : r2.toInt ≠ 32 := fun z_ => c5 (Int32.toInt_inj.mp z_)
        refine lv_aload_n hx hb dX11_look_22 rfl (lv_at hl 0 rfl) ?_
        obtain ⟨_, r9⟩ := t_rec t_0 hu0 (by decide) wf_60
        refine k_i (r_V C h hl (As := []) (rest := []) (s_X11_hereX l D G b0 τ f_0 t_0 u0 hu0 ln hln k0_u0_2 g0_u0_3 ig0_u0_3 k0_u0_3 tq htq k0_u0_1 rt k0_tq_R B hB) r9 (Cn := RX11) (T := TX11) (N := 32) rfl rfl mk_X11_here w_1561 w_1563 w_41 w_1564 ⟨Nat.le_of_ble_eq_true rfl, Nat.le_of_ble_eq_true rfl⟩ rfl (Nat.le_of_ble_eq_true rfl) ⟨Nat.le_of_ble_eq_true rfl, Nat.le_of_ble_eq_true rfl⟩ rfl dX11_look_23) h (fun r10 f11 H locs p12 h => ?_)
        obtain ⟨ir10, tf11, ogf11, x0r10⟩ := p12
        have egf11 := Fr.nil2 ogf11
        subst egf11
        exact u_iret C h hr hQ (⟨ir10, t_0, o_0, (by rw [← hv0_0, rn_e (by omega)]; omega), ⟨g0_u0_3, k0_u0_3, ig0_u0_3, (by rw [← hv0_0, rn_e (by omega)]; omega)⟩⟩) (Nat.le_of_ble_eq_true rfl) (Nat.le_of_ble_eq_true rfl) dX11_look_26
      · have c7 : r2.toInt = 32 := congrArg Int32.toInt c5
        have i8 : iv r2 32 32 := iv_Q c7 ir2 (iv_k (x := 32) (k := 32) rfl) (by decide)
        refine lv_aload_n hx hb dX11_look_9 rfl (lv_at hl 0 rfl) ?_
        refine lv_dup hx hb dX11_look_10 rfl ?_
        refine t_getfd C h t_0 hu0 (by decide) wf_60 (v := .int g0_u0_3) k0_u0_3 fl_X11_90 dX11_look_11 ?_
        refine lv_iconst (v := 1) hx hb dX11_look_14 (by decide) ?_
        refine i_addk hx hb dX11_look_15 ig0_u0_3 (k := 1) rfl (lo := 1) (hi := 201) (by decide) (fun z13 ez13 mz13 iz13 => ?_)
        refine t_put C h t_0 o_0 hu0 (by decide) (by decide) (by decide) wf_60 fw_60 (k := 3) rfl flw_X11_90 (Or.inr ⟨_, _, _, rfl, rfl⟩) (v := .int z13) rfl rfl ⟨_, rfl, (show iv z13 0 200 from by omega)⟩ dX11_look_16 (fun f14 H locs h tf14 of14 hq ha_ hn_ hk_ => ?_)
        have k15 := hk_ 2 _ (by decide) k0_u0_2
        have k17 := hk_ 1 _ (by decide) k0_u0_1
        have k18 := atp.tg k0_tq_R hq htq (by decide)
        have k19 := ha_
        refine lv_goto (tgt := 0) hx hb dX11_look_19 (by decide) ?_
        exact ih0 ls f14 H locs z13 (show 200 - z13.toInt < _ by omega) (lv_cons hl 0 rfl (lv_nil hl)) h tf14 of14 (show iv z13 0 200 from by omega) k15 k19 k17 k18 (show rn 32 32 B ln.toInt.toNat (Int.toNat (z13.toInt)) = rn 32 32 B ln.toInt.toNat aa.toInt.toNat from (by rw [rn_s (i := Int.toNat g0_u0_3.toInt) (by omega) (by omega)]; exact hv0_0))
  exact L0 201 ls f s.heap [] aa (show 200 - aa.toInt < _ by omega) (lv_cons hl 0 rfl (lv_nil hl)) h t o haa k_u0_2 k_u0_3 k_u0_1 hRtq (show rn 32 32 B ln.toInt.toNat (Int.toNat (aa.toInt)) = rn 32 32 B ln.toInt.toNat aa.toInt.toNat from rfl)
abbrev rm_s_X11_failsX : Room := { frames := 0, cells := 0, slots := 0, locals := 0 }
set_option maxRecDepth 100000 in
set_option maxHeartbeats 4000000 in
theorem s_X11_failsX (l : Launch) (D : va_G) (G : Nat → Nat) (b0 : Nat) (τ : Nat → Nat) (f : hM) (t : TI G 9 τ f) (u0 : Nat) (hu0 : τ u0 = 60) (u1 : Int32) (hu1 : iv u1 0 200) (fa : Int32) (hfa : iv fa (-1) 200) (k_u0_4 : atp f u0 (fd 4 (.int fa))) : mV l yX11_fails cX11_fails 2 rm_s_X11_failsX D G b0 f [.ref u0, .int u1] (fun f1 => TI G 9 τ f1 ∧ Fr [60, 60005] τ f f1 ∧ (∃ fa1 : Int32, atp f1 u0 (fd 4 (.int fa1)) ∧ iv fa1 (-1) 200 ∧ (fa.toInt = -1 → fa1.toInt = u1.toInt) ∧ (fa.toInt ≠ -1 → fa1.toInt = fa.toInt))) := by
  refine met2 (own := RX11) (by decide) rfl (Nat.le_of_ble_eq_true rfl) ?_
  intro p e s m args below meth c ls Q hQ C hr hini hl h
  have hl : lv_has ls 2 [(0, .ref u0), (1, .int u1)] := hl
  obtain ⟨hx, hb, hml, hown, hts, hE0, hlk⟩ := id C
  have o := Fr.rf [60, 60005] τ f
  refine lv_aload_n hx hb dX11_fails_0 rfl (lv_at hl 0 rfl) ?_
  refine t_getfd C h t hu0 (by decide) wf_60 (v := .int fa) k_u0_4 fl_X11_97 dX11_fails_1 ?_
  refine lv_iconst (v := -1) hx hb dX11_fails_4 (by decide) ?_
  refine lv_icmp_ne (tgt := 13) hx hb dX11_fails_5 (by decide) (fun c1 => ?_) (fun c1 => ?_)
  · have c2 : fa.toInt ≠ (-1) := fun z_ => c1 (Int32.toInt_inj.mp z_)
    have i3 : iv fa 0 200 := iv_Nl c2 hfa (by decide)
    exact u_vret C h hr hQ (⟨t, o, ⟨fa, k_u0_4, (iv_w i3 (by decide)), (by omega)⟩⟩) (Nat.le_of_ble_eq_true rfl) (Nat.le_of_ble_eq_true rfl) dX11_fails_13
  · have c4 : fa.toInt = (-1) := congrArg Int32.toInt c1
    have i5 : iv fa (-1) (-1) := iv_Q c4 hfa (iv_k (x := (-1)) (k := (-1)) rfl) (by decide)
    refine lv_aload_n hx hb dX11_fails_8 rfl (lv_at hl 0 rfl) ?_
    refine lv_iload_n hx hb dX11_fails_9 rfl (lv_at hl 1 rfl) ?_
    refine t_put C h t o hu0 (by decide) (by decide) (by decide) wf_60 fw_60 (k := 4) rfl flw_X11_97 (Or.inr ⟨_, _, _, rfl, rfl⟩) (v := .int u1) rfl rfl ⟨_, rfl, (iv_w hu1 (by decide))⟩ dX11_fails_10 (fun f6 H locs h tf6 of6 hq ha_ hn_ hk_ => ?_)
    have k8 := ha_
    exact u_vret C h hr hQ (⟨tf6, of6, ⟨u1, k8, (iv_w hu1 (by decide)), (by omega)⟩⟩) (Nat.le_of_ble_eq_true rfl) (Nat.le_of_ble_eq_true rfl) dX11_fails_13
