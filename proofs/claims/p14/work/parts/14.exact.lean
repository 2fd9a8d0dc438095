theorem dX11_isExact_0 : decode cX11_isExact 0 = .ok (.aload_n 0, 1) := by decide +kernel
theorem dX11_isExact_1 : decode cX11_isExact 1 = .ok (.iload_n 1, 1) := by decide +kernel
theorem dX11_isExact_2 : decode cX11_isExact 2 = .ok (.invokevirtual 183, 3) := by decide +kernel
theorem dX11_isExact_5 : decode cX11_isExact 5 = .ok (.i2l, 1) := by decide +kernel
theorem dX11_isExact_6 : decode cX11_isExact 6 = .ok (.lstore_n 3, 1) := by decide +kernel
theorem dX11_isExact_7 : decode cX11_isExact 7 = .ok (.lconst 1, 1) := by decide +kernel
theorem dX11_isExact_8 : decode cX11_isExact 8 = .ok (.lstore 5, 2) := by decide +kernel
theorem dX11_isExact_10 : decode cX11_isExact 10 = .ok (.iconst 0, 1) := by decide +kernel
theorem dX11_isExact_11 : decode cX11_isExact 11 = .ok (.istore 7, 2) := by decide +kernel
theorem dX11_isExact_13 : decode cX11_isExact 13 = .ok (.iload 7, 2) := by decide +kernel
theorem dX11_isExact_15 : decode cX11_isExact 15 = .ok (.iload_n 2, 1) := by decide +kernel
theorem dX11_isExact_16 : decode cX11_isExact 16 = .ok (.if_icmp .ge 28, 3) := by decide +kernel
theorem dX11_isExact_44 : decode cX11_isExact 44 = .ok (.iconst 1, 1) := by decide +kernel
theorem dX11_isExact_19 : decode cX11_isExact 19 = .ok (.lload 5, 2) := by decide +kernel
theorem dX11_isExact_21 : decode cX11_isExact 21 = .ok (.ldc2_w 265, 3) := by decide +kernel
theorem w_1747 : Cond.constantLong "QuarterWalksModel" 265 9223372036854775807 ∈ wAll := wI7 212 (by decide +kernel) (by decide +kernel)
theorem dX11_isExact_24 : decode cX11_isExact 24 = .ok (.lload_n 3, 1) := by decide +kernel
theorem dX11_isExact_25 : decode cX11_isExact 25 = .ok (.ldiv, 1) := by decide +kernel
theorem dX11_isExact_26 : decode cX11_isExact 26 = .ok (.lcmp, 1) := by decide +kernel
theorem dX11_isExact_27 : decode cX11_isExact 27 = .ok (.ifCond .le 5, 3) := by decide +kernel
theorem dX11_isExact_32 : decode cX11_isExact 32 = .ok (.lload 5, 2) := by decide +kernel
theorem dX11_isExact_34 : decode cX11_isExact 34 = .ok (.lload_n 3, 1) := by decide +kernel
theorem dX11_isExact_35 : decode cX11_isExact 35 = .ok (.lmul, 1) := by decide +kernel
theorem dX11_isExact_36 : decode cX11_isExact 36 = .ok (.lstore 5, 2) := by decide +kernel
theorem dX11_isExact_38 : decode cX11_isExact 38 = .ok (.iinc 7 1, 3) := by decide +kernel
theorem dX11_isExact_41 : decode cX11_isExact 41 = .ok (.goto (-28), 3) := by decide +kernel
theorem dX11_isExact_30 : decode cX11_isExact 30 = .ok (.iconst 0, 1) := by decide +kernel
theorem dX11_isExact_45 : decode cX11_isExact 45 = .ok (.ireturn, 1) := by decide +kernel
theorem dX11_isExact_31 : decode cX11_isExact 31 = .ok (.ireturn, 1) := by decide +kernel
theorem dX11_exact_0 : decode cX11_exact 0 = .ok (.aload_n 0, 1) := by decide +kernel
theorem dX11_exact_1 : decode cX11_exact 1 = .ok (.iconst 0, 1) := by decide +kernel
theorem dX11_exact_2 : decode cX11_exact 2 = .ok (.putfield 75, 3) := by decide +kernel
theorem dX11_exact_5 : decode cX11_exact 5 = .ok (.aload_n 0, 1) := by decide +kernel
theorem dX11_exact_6 : decode cX11_exact 6 = .ok (.iload_n 1, 1) := by decide +kernel
theorem dX11_exact_7 : decode cX11_exact 7 = .ok (.invokevirtual 171, 3) := by decide +kernel
theorem dX11_exact_10 : decode cX11_exact 10 = .ok (.ifCond .eq 28, 3) := by decide +kernel
theorem dX11_exact_38 : decode cX11_exact 38 = .ok (.ldc2_w 270, 3) := by decide +kernel
theorem w_1748 : Cond.constantLong "QuarterWalksModel" 270 (-1) ∈ wAll := wI7 213 (by decide +kernel) (by decide +kernel)
theorem dX11_exact_13 : decode cX11_exact 13 = .ok (.iload_n 2, 1) := by decide +kernel
theorem dX11_exact_14 : decode cX11_exact 14 = .ok (.invokestatic 239, 3) := by decide +kernel
theorem dX11_exact_17 : decode cX11_exact 17 = .ok (.ifCond .eq 21, 3) := by decide +kernel
theorem dX11_exact_20 : decode cX11_exact 20 = .ok (.iload_n 3, 1) := by decide +kernel
theorem dX11_exact_21 : decode cX11_exact 21 = .ok (.iload 4, 2) := by decide +kernel
theorem dX11_exact_23 : decode cX11_exact 23 = .ok (.invokestatic 242, 3) := by decide +kernel
theorem dX11_exact_26 : decode cX11_exact 26 = .ok (.ifCond .ne 12, 3) := by decide +kernel
theorem dX11_exact_29 : decode cX11_exact 29 = .ok (.aload_n 0, 1) := by decide +kernel
theorem dX11_exact_30 : decode cX11_exact 30 = .ok (.iload_n 1, 1) := by decide +kernel
theorem dX11_exact_31 : decode cX11_exact 31 = .ok (.iload_n 2, 1) := by decide +kernel
theorem dX11_exact_32 : decode cX11_exact 32 = .ok (.invokevirtual 267, 3) := by decide +kernel
theorem w_1743 : Cond.methodLink "QuarterWalksModel" 267 yX11_isExact ∈ wAll := wI7 208 (by decide +kernel) (by decide +kernel)
theorem w_63 : Cond.selects yX11_isExact.cls yX11_isExact yX11_isExact ∈ wAll := wIn 63 (by decide +kernel) (by decide +kernel)
theorem mk_X11_isExact : mk yX11_isExact 2 := ⟨by decide +kernel, w_110⟩
theorem w_1745 : Cond.instanceMethod yX11_isExact ∈ wAll := wI7 210 (by decide +kernel) (by decide +kernel)
theorem w_1746 : Cond.code yX11_isExact cX11_isExact 8 (some .boolean) ∈ wAll := wI7 211 (by decide +kernel) (by decide +kernel)
theorem dX11_exact_35 : decode cX11_exact 35 = .ok (.ifCond .ne 7, 3) := by decide +kernel
theorem dX11_exact_42 : decode cX11_exact 42 = .ok (.aload_n 0, 1) := by decide +kernel
theorem dX11_exact_43 : decode cX11_exact 43 = .ok (.iload_n 1, 1) := by decide +kernel
theorem dX11_exact_44 : decode cX11_exact 44 = .ok (.iconst 0, 1) := by decide +kernel
theorem dX11_exact_45 : decode cX11_exact 45 = .ok (.iconst 2, 1) := by decide +kernel
theorem dX11_exact_46 : decode cX11_exact 46 = .ok (.iload_n 2, 1) := by decide +kernel
theorem dX11_exact_47 : decode cX11_exact 47 = .ok (.invokevirtual 246, 3) := by decide +kernel
theorem dX11_exact_50 : decode cX11_exact 50 = .ok (.aload_n 0, 1) := by decide +kernel
theorem dX11_exact_51 : decode cX11_exact 51 = .ok (.iload_n 3, 1) := by decide +kernel
theorem dX11_exact_52 : decode cX11_exact 52 = .ok (.iload 4, 2) := by decide +kernel
theorem dX11_exact_54 : decode cX11_exact 54 = .ok (.invokevirtual 250, 3) := by decide +kernel
theorem dX11_exact_41 : decode cX11_exact 41 = .ok (.lreturn, 1) := by decide +kernel
theorem dX11_exact_57 : decode cX11_exact 57 = .ok (.lreturn, 1) := by decide +kernel
abbrev rm_s_X11_weightOfE : Room := { frames := 0, cells := 0, slots := 0, locals := 0 }
set_option maxRecDepth 100000 in
set_option maxHeartbeats 4000000 in
theorem s_X11_weightOfE (l : Launch) (D : va_G) (G : Nat → Nat) (b0 : Nat) (τ : Nat → Nat) (f : hM) (t : TI G 9 τ f) (u0 : Nat) (hu0 : τ u0 = 60) (u1 : Int32) (hu1 : iv u1 0 7) (u2 : Int32) (hu2 : iv u2 0 9) (bq : Nat) (hbq : τ bq = 63) (kbq : atp f u0 (fd 6 (.ref bq))) (r0 : Nat → Int32) (hr0 : atp f bq (eqc (.inl (G 1, 81, .inl r0)))) (k0 : Nat) (hk0 : k0 < 8) (hp0 : ∀ x : Int32, x.toInt = 10 * u1.toInt + k0 → 0 < (r0 x.toNatClampNeg).toInt) : mI l yX11_weightOf cX11_weightOf 3 (.int) rm_s_X11_weightOfE D G b0 f [.ref u0, .int u1, .int u2] (fun r f1 => iv r 0 9 ∧ TI G 9 τ f1 ∧ Fr [] τ f f1 ∧ (u2.toInt = k0 → 0 < r.toInt)) := by
  refine met2 (own := RX11) (by decide) rfl (Nat.le_of_ble_eq_true rfl) ?_
  intro p e s m args below meth c ls Q hQ C hr hini hl h
  have hl : lv_has ls 3 [(0, .ref u0), (1, .int u1), (2, .int u2)] := hl
  obtain ⟨hx, hb, hml, hown, hts, hE0, hlk⟩ := id C
  have o := Fr.rf [] τ f
  refine lv_aload_n hx hb dX11_weightOf_0 rfl (lv_at hl 0 rfl) ?_
  refine t_getfd C h t hu0 (by decide) wf_60 (v := .ref bq) kbq fl_X11_17 dX11_weightOf_1 ?_
  refine lv_bipush (v := 10) hx hb dX11_weightOf_4 (by decide) ?_
  refine lv_iload_n hx hb dX11_weightOf_6 rfl (lv_at hl 1 rfl) ?_
  refine i_cmul hx hb dX11_weightOf_7 (k := 10) rfl hu1 (lo := 0) (hi := 70) (by decide) (fun z1 ez1 mz1 iz1 => ?_)
  refine lv_iload_n hx hb dX11_weightOf_8 rfl (lv_at hl 2 rfl) ?_
  refine i_add hx hb dX11_weightOf_9 iz1 hu2 (lo := 0) (hi := 79) (by decide) (fun z2 ez2 mz2 iz2 => ?_)
  refine t_bkr C h t hbq hr0 iz2 (by decide) dX11_weightOf_10 (fun z3 ez3 iz3 => ?_)
  have hq_ : u2.toInt = k0 → 0 < z3.toInt := fun z_ => by rw [ez3]; exact hp0 _ (by omega)
  exact u_iret C h hr hQ (⟨iz3, t, o, (by omega)⟩) (Nat.le_of_ble_eq_true rfl) (Nat.le_of_ble_eq_true rfl) dX11_weightOf_11
abbrev rm_s_X11_worthOfE : Room := { frames := 1, cells := 0, slots := 0, locals := 22 }
set_option maxRecDepth 100000 in
set_option maxHeartbeats 4000000 in
theorem s_X11_worthOfE (l : Launch) (D : va_G) (G : Nat → Nat) (b0 : Nat) (τ : Nat → Nat) (f : hM) (t : TI G 9 τ f) (u0 : Nat) (hu0 : τ u0 = 60) (u1 : Int32) (hu1 : iv u1 0 7) (bq : Nat) (hbq : τ bq = 63) (kbq : atp f u0 (fd 6 (.ref bq))) (r0 : Nat → Int32) (hr0 : atp f bq (eqc (.inl (G 1, 81, .inl r0)))) (k0 : Nat) (hk0 : k0 < 8) (hp0 : ∀ x : Int32, x.toInt = 10 * u1.toInt + k0 → 0 < (r0 x.toNatClampNeg).toInt) : mI l yX11_worthOf cX11_worthOf 4 (.int) rm_s_X11_worthOfE D G b0 f [.ref u0, .int u1] (fun r f1 => iv r 0 72 ∧ TI G 9 τ f1 ∧ Fr [] τ f f1 ∧ (1 ≤ r.toInt)) := by
  refine met2 (own := RX11) (by decide) rfl (Nat.le_of_ble_eq_true rfl) ?_
  intro p e s m args below meth c ls Q hQ C hr hini hl h
  have hl : lv_has ls 4 [(0, .ref u0), (1, .int u1)] := hl
  obtain ⟨hx, hb, hml, hown, hts, hE0, hlk⟩ := id C
  have o := Fr.rf [] τ f
  have L4 : ∀ (n4 : Nat) (ls : Array Slot) (f_4 : hM) (H : Heap) (locs : List Loc) (v4_2 : Int32) (v4_3 : Int32), 8 - v4_3.toInt < (n4 : Int) → lv_has ls 4 [(0, .ref u0), (1, .int u1), (2, .int v4_2), (3, .int v4_3)] → hw D b0 s.heap f_4 H locs → TI G 9 τ f_4 → Fr [] τ f f_4 → iv v4_2 0 72 → iv v4_3 0 8 → atp f_4 u0 (fd 6 (.ref bq)) → atp f_4 bq (eqc (.inl (G 1, 81, .inl r0))) → v4_2.toInt ≤ 9 * v4_3.toInt → v4_3.toInt ≤ (k0 : Int) ∨ 1 ≤ v4_2.toInt → W p l e rm_s_X11_worthOfE s m args below meth c H locs 0 0 Q (F0 m 4 ls []) := by
    intro n4
    induction n4 with
    | zero => intro ls f_4 H locs v4_2 v4_3 hm4 hl h t_4 o_4 iv4_2 iv4_3 k4_u0_6 k4_bq_pre hv4_0 hv4_1; exact absurd hm4 (by omega)
    | succ n4 ih4 =>
      intro ls f_4 H locs v4_2 v4_3 hm4 hl h t_4 o_4 iv4_2 iv4_3 k4_u0_6 k4_bq_pre hv4_0 hv4_1
      refine lv_iload_n hx hb dX11_worthOf_4 rfl (lv_at hl 3 rfl) ?_
      refine lv_bipush (v := 8) hx hb dX11_worthOf_5 (by decide) ?_
      refine lv_icmp_ge (tgt := 25) hx hb dX11_worthOf_7 (by decide) (fun c1 => ?_) (fun c1 => ?_)
      · have c2 : 8 ≤ v4_3.toInt := Int32.le_iff_toInt_le.mp c1
        have i3 : iv v4_3 8 8 := iv_Er c2 (iv_k (x := 8) (k := 8) rfl) iv4_3 (by decide)
        refine lv_iload_n hx hb dX11_worthOf_25 rfl (lv_at hl 2 rfl) ?_
        exact u_iret C h hr hQ (⟨iv4_2, t_4, o_4, (by omega)⟩) (Nat.le_of_ble_eq_true rfl) (Nat.le_of_ble_eq_true rfl) dX11_worthOf_26
      · have c4 : v4_3.toInt < 8 := Int32.lt_iff_toInt_lt.mp (iv_nle c1)
        have i5 : iv v4_3 0 7 := iv_Ll c4 iv4_3 (iv_k (x := 8) (k := 8) rfl) (by decide)
        refine lv_iload_n hx hb dX11_worthOf_10 rfl (lv_at hl 2 rfl) ?_
        refine lv_aload_n hx hb dX11_worthOf_11 rfl (lv_at hl 0 rfl) ?_
        refine lv_iload_n hx hb dX11_worthOf_12 rfl (lv_at hl 1 rfl) ?_
        refine lv_iload_n hx hb dX11_worthOf_13 rfl (lv_at hl 3 rfl) ?_
        obtain ⟨_, r6⟩ := t_rec t_4 hu0 (by decide) wf_60
        refine k_i (r_V C h hl (As := [.int u1, .int v4_3]) (rest := [.int v4_2]) (s_X11_weightOfE l D G b0 τ f_4 t_4 u0 hu0 u1 hu1 v4_3 (iv_w i5 (by decide)) bq hbq k4_u0_6 r0 k4_bq_pre k0 hk0 hp0) r6 (Cn := RX11) (T := TX11) (N := 32) rfl rfl mk_X11_weightOf w_1631 w_1633 w_52 w_1634 ⟨Nat.le_of_ble_eq_true rfl, Nat.le_of_ble_eq_true rfl⟩ rfl (Nat.le_of_ble_eq_true rfl) ⟨Nat.le_of_ble_eq_true rfl, Nat.le_of_ble_eq_true rfl⟩ rfl dX11_worthOf_14) h (fun r7 f8 H locs p9 h => ?_)
        obtain ⟨ir7, tf8, ogf8, x0r7⟩ := p9
        have egf8 := Fr.nil2 ogf8
        subst egf8
        refine i_add hx hb dX11_worthOf_17 iv4_2 ir7 (lo := 0) (hi := 81) (by decide) (fun z10 ez10 mz10 iz10 => ?_)
        refine lv_istore_n (lv' := [(2, .int z10), (0, .ref u0), (1, .int u1), (3, .int v4_3)]) hx hb dX11_worthOf_18 rfl hl (by decide) rfl (fun ls hl => ?_)
        refine i_inc hx hb dX11_worthOf_19 hl (k := 3) rfl i5 rfl (lo := 1) (hi := 8) (by decide) (by decide) (lv' := fun v => [(3, .int v), (2, .int z10), (0, .ref u0), (1, .int u1)]) (fun _ => rfl) (fun z11 ls ez11 mz11 iz11 hl => ?_)
        refine lv_goto (tgt := 4) hx hb dX11_worthOf_22 (by decide) ?_
        exact ih4 ls f_4 H locs z10 z11 (show 8 - z11.toInt < _ by omega) (lv_cons hl 2 rfl (lv_cons hl 3 rfl (lv_cons hl 1 rfl (lv_cons hl 0 rfl (lv_nil hl))))) h t_4 o_4 (show iv z10 0 72 from by omega) (iv_w iz11 (by decide)) k4_u0_6 k4_bq_pre (show z10.toInt ≤ 9 * z11.toInt by omega) (show z11.toInt ≤ (k0 : Int) ∨ 1 ≤ z10.toInt by omega)
  refine lv_iconst (v := 0) hx hb dX11_worthOf_0 (by decide) ?_
  refine lv_istore_n (lv' := [(2, .int 0), (0, .ref u0), (1, .int u1)]) hx hb dX11_worthOf_1 rfl hl (by decide) rfl (fun ls hl => ?_)
  refine lv_iconst (v := 0) hx hb dX11_worthOf_2 (by decide) ?_
  refine lv_istore_n (lv' := [(3, .int 0), (2, .int 0), (0, .ref u0), (1, .int u1)]) hx hb dX11_worthOf_3 rfl hl (by decide) rfl (fun ls hl => ?_)
  exact L4 9 ls f s.heap [] 0 0 (by decide) (lv_cons hl 2 rfl (lv_cons hl 3 rfl (lv_cons hl 1 rfl (lv_cons hl 0 rfl (lv_nil hl))))) h t o ⟨by decide, by decide⟩ ⟨by decide, by decide⟩ kbq hr0 (show 0 ≤ 9 * 0 by omega) (show 0 ≤ (k0 : Int) ∨ 1 ≤ 0 by omega)
abbrev rm_s_X11_isExactE : Room := { frames := 2, cells := 0, slots := 0, locals := 45 }
set_option maxRecDepth 100000 in
set_option maxHeartbeats 4000000 in
theorem s_X11_isExactE (l : Launch) (D : va_G) (G : Nat → Nat) (b0 : Nat) (τ : Nat → Nat) (f : hM) (t : TI G 9 τ f) (u0 : Nat) (hu0 : τ u0 = 60) (u1 : Int32) (hu1 : iv u1 0 7) (u2 : Int32) (hu2 : iv u2 (-2147483648) 2147483647) (bq : Nat) (hbq : τ bq = 63) (kbq : atp f u0 (fd 6 (.ref bq))) (r0 : Nat → Int32) (hr0 : atp f bq (eqc (.inl (G 1, 81, .inl r0)))) (k0 : Nat) (hk0 : k0 < 8) (hp0 : ∀ x : Int32, x.toInt = 10 * u1.toInt + k0 → 0 < (r0 x.toNatClampNeg).toInt) : mI l yX11_isExact cX11_isExact 8 (.boolean) rm_s_X11_isExactE D G b0 f [.ref u0, .int u1, .int u2] (fun r f1 => iv r 0 1 ∧ TI G 9 τ f1 ∧ Fr [] τ f f1) := by
  refine met2 (own := RX11) (by decide) rfl (Nat.le_of_ble_eq_true rfl) ?_
  intro p e s m args below meth c ls Q hQ C hr hini hl h
  have hl : lv_has ls 8 [(0, .ref u0), (1, .int u1), (2, .int u2)] := hl
  obtain ⟨hx, hb, hml, hown, hts, hE0, hlk⟩ := id C
  have o := Fr.rf [] τ f
  have L13 : ∀ (n13 : Nat) (ls : Array Slot) (f_13 : hM) (H : Heap) (locs : List Loc) (v13_3 : Int64) (v13_5 : Int64) (v13_7 : Int32), 2147483647 - v13_7.toInt < (n13 : Int) → lv_has ls 8 [(2, .int u2), (3, .long v13_3), (5, .long v13_5), (7, .int v13_7)] → hw D b0 s.heap f_13 H locs → TI G 9 τ f_13 → Fr [] τ f f_13 → ivl v13_3 1 72 → iv v13_7 0 2147483647 → atp f_13 u0 (fd 6 (.ref bq)) → atp f_13 bq (eqc (.inl (G 1, 81, .inl r0))) → W p l e rm_s_X11_isExactE s m args below meth c H locs 0 0 Q (F0 m 13 ls []) := by
    intro n13
    induction n13 with
    | zero => intro ls f_13 H locs v13_3 v13_5 v13_7 hm13 hl h t_13 o_13 iv13_3 iv13_7 k13_u0_6 k13_bq_pre; exact absurd hm13 (by omega)
    | succ n13 ih13 =>
      intro ls f_13 H locs v13_3 v13_5 v13_7 hm13 hl h t_13 o_13 iv13_3 iv13_7 k13_u0_6 k13_bq_pre
      refine lv_iload hx hb dX11_isExact_13 (lv_at hl 3 rfl) ?_
      refine lv_iload_n hx hb dX11_isExact_15 rfl (lv_at hl 0 rfl) ?_
      refine lv_icmp_ge (tgt := 44) hx hb dX11_isExact_16 (by decide) (fun c1 => ?_) (fun c1 => ?_)
      · have c2 : u2.toInt ≤ v13_7.toInt := Int32.le_iff_toInt_le.mp c1
        refine lv_iconst (v := 1) hx hb dX11_isExact_44 (by decide) ?_
        exact u_zret C h hr hQ ⟨by decide, by decide⟩ (⟨⟨by decide, by decide⟩, t_13, o_13⟩) (Nat.le_of_ble_eq_true rfl) (Nat.le_of_ble_eq_true rfl) dX11_isExact_45
      · have c3 : v13_7.toInt < u2.toInt := Int32.lt_iff_toInt_lt.mp (iv_nle c1)
        have i4 : iv v13_7 0 2147483646 := iv_Ll c3 iv13_7 hu2 (by decide)
        have i5 : iv u2 1 2147483647 := iv_Lr c3 iv13_7 hu2 (by decide)
        refine lv_lload hx hb dX11_isExact_19 (lv_at hl 2 rfl) ?_
        refine lv_ldc2 (v := 9223372036854775807) hx hb hown (hts _ w_1747) dX11_isExact_21 ?_
        refine lv_lload_n hx hb dX11_isExact_24 rfl (lv_at hl 1 rfl) ?_
        refine lv_ldiv hx hb dX11_isExact_25 (ivl_nz iv13_3 (by decide)) (lv_topl (fun w6 ew6 => ?_))
        refine W.lcmp hx hb dX11_isExact_26 (i_topc (fun z7 ez7 mz7 iz7 => ?_))
        refine lv_if_le (tgt := 32) hx hb dX11_isExact_27 (by decide) (fun c8 => ?_) (fun c8 => ?_)
        · have c9 : z7.toInt ≤ 0 := Int32.le_iff_toInt_le.mp c8
          have i10 : iv z7 (-1) 0 := iv_El c9 iz7 (iv_k (x := 0) (k := 0) rfl) (by decide)
          refine lv_lload hx hb dX11_isExact_32 (lv_at hl 2 rfl) ?_
          refine lv_lload_n hx hb dX11_isExact_34 rfl (lv_at hl 1 rfl) ?_
          refine lv_lmul hx hb dX11_isExact_35 (lv_topl (fun w13 ew13 => ?_))
          refine lv_lstore (lv' := [(5, .long w13), (2, .int u2), (3, .long v13_3), (7, .int v13_7)]) hx hb dX11_isExact_36 hl (by decide) rfl (fun ls hl => ?_)
          refine i_inc hx hb dX11_isExact_38 hl (k := 3) rfl i4 rfl (lo := 1) (hi := 2147483647) (by decide) (by decide) (lv' := fun v => [(7, .int v), (5, .long w13), (2, .int u2), (3, .long v13_3)]) (fun _ => rfl) (fun z14 ls ez14 mz14 iz14 hl => ?_)
          refine lv_goto (tgt := 13) hx hb dX11_isExact_41 (by decide) ?_
          exact ih13 ls f_13 H locs v13_3 w13 z14 (show 2147483647 - z14.toInt < _ by omega) (lv_cons hl 2 rfl (lv_cons hl 3 rfl (lv_cons hl 1 rfl (lv_cons hl 0 rfl (lv_nil hl))))) h t_13 o_13 (ivl_w iv13_3 (by decide)) (iv_w iz14 (by decide)) k13_u0_6 k13_bq_pre
        · have c11 : 0 < z7.toInt := Int32.lt_iff_toInt_lt.mp (iv_nle c8)
          have i12 : iv z7 1 1 := iv_Lr c11 (iv_k (x := 0) (k := 0) rfl) iz7 (by decide)
          refine lv_iconst (v := 0) hx hb dX11_isExact_30 (by decide) ?_
          exact u_zret C h hr hQ ⟨by decide, by decide⟩ (⟨⟨by decide, by decide⟩, t_13, o_13⟩) (Nat.le_of_ble_eq_true rfl) (Nat.le_of_ble_eq_true rfl) dX11_isExact_31
  refine lv_aload_n hx hb dX11_isExact_0 rfl (lv_at hl 0 rfl) ?_
  refine lv_iload_n hx hb dX11_isExact_1 rfl (lv_at hl 1 rfl) ?_
  obtain ⟨_, r15⟩ := t_rec t hu0 (by decide) wf_60
  refine k_i (r_V C h hl (As := [.int u1]) (rest := []) (s_X11_worthOfE l D G b0 τ f t u0 hu0 u1 hu1 bq hbq kbq r0 hr0 k0 hk0 hp0) r15 (Cn := RX11) (T := TX11) (N := 32) rfl rfl mk_X11_worthOf w_1649 w_1651 w_53 w_1652 ⟨Nat.le_of_ble_eq_true rfl, Nat.le_of_ble_eq_true rfl⟩ rfl (Nat.le_of_ble_eq_true rfl) ⟨Nat.le_of_ble_eq_true rfl, Nat.le_of_ble_eq_true rfl⟩ rfl dX11_isExact_2) h (fun r16 f17 H locs p18 h => ?_)
  obtain ⟨ir16, tf17, ogf17, x0r16⟩ := p18
  have egf17 := Fr.nil2 ogf17
  subst egf17
  have i19 : iv r16 1 72 := ⟨by omega, by omega⟩
  refine lv_i2l hx hb dX11_isExact_5 rfl (i_topL i19 (fun w20 ew20 mw20 iw20 => ?_))
  refine lv_lstore_n (lv' := [(3, .long w20), (0, .ref u0), (1, .int u1), (2, .int u2)]) hx hb dX11_isExact_6 rfl hl (by decide) rfl (fun ls hl => ?_)
  refine lv_lconst (v := 1) hx hb dX11_isExact_7 (by decide) ?_
  refine lv_lstore (lv' := [(5, .long 1), (3, .long w20), (0, .ref u0), (1, .int u1), (2, .int u2)]) hx hb dX11_isExact_8 hl (by decide) rfl (fun ls hl => ?_)
  refine lv_iconst (v := 0) hx hb dX11_isExact_10 (by decide) ?_
  refine lv_istore (lv' := [(7, .int 0), (5, .long 1), (3, .long w20), (0, .ref u0), (1, .int u1), (2, .int u2)]) hx hb dX11_isExact_11 hl (by decide) rfl (fun ls hl => ?_)
  exact L13 2147483648 ls f H locs w20 1 0 (by decide) (lv_cons hl 5 rfl (lv_cons hl 2 rfl (lv_cons hl 1 rfl (lv_cons hl 0 rfl (lv_nil hl))))) h t o (ivl_w iw20 (by decide)) ⟨by decide, by decide⟩ kbq hr0
abbrev rm_s_X11_isSetE : Room := { frames := 1, cells := 0, slots := 0, locals := 25 }
set_option maxRecDepth 100000 in
set_option maxHeartbeats 4000000 in
theorem s_X11_isSetE (l : Launch) (D : va_G) (G : Nat → Nat) (b0 : Nat) (τ : Nat → Nat) (f : hM) (t : TI G 9 τ f) (u0 : Nat) (hu0 : τ u0 = 60) (u1 : Int32) (hu1 : iv u1 (-2147483648) 2147483647) (bq : Nat) (hbq : τ bq = 63) (kbq : atp f u0 (fd 6 (.ref bq))) (r0 : Nat → Int32) (hr0 : atp f bq (eqc (.inl (G 1, 81, .inl r0))))  : mI l yX11_isSet cX11_isSet 2 (.boolean) rm_s_X11_isSetE D G b0 f [.ref u0, .int u1] (fun r f1 => iv r 0 1 ∧ TI G 9 τ f1 ∧ Fr [] τ f f1 ∧ (r.toInt ≠ 0 → iv u1 0 7 ∧ u1.toInt < (r0 80).toInt)) := by
  refine met2 (own := RX11) (by decide) rfl (Nat.le_of_ble_eq_true rfl) ?_
  intro p e s m args below meth c ls Q hQ C hr hini hl h
  have hl : lv_has ls 2 [(0, .ref u0), (1, .int u1)] := hl
  obtain ⟨hx, hb, hml, hown, hts, hE0, hlk⟩ := id C
  have o := Fr.rf [] τ f
  refine lv_iload_n hx hb dX11_isSet_0 rfl (lv_at hl 1 rfl) ?_
  refine lv_i2l hx hb dX11_isSet_1 rfl (i_topL hu1 (fun w1 ew1 mw1 iw1 => ?_))
  refine lv_lconst (v := 0) hx hb dX11_isSet_2 (by decide) ?_
  refine lv_aload_n hx hb dX11_isSet_3 rfl (lv_at hl 0 rfl) ?_
  refine t_getfd C h t hu0 (by decide) wf_60 (v := .ref bq) kbq fl_X11_17 dX11_isSet_4 ?_
  refine lv_bipush (v := 80) hx hb dX11_isSet_7 (by decide) ?_
  refine t_bkr80 C h t hbq hr0 dX11_isSet_9 (fun z2 mz2 iz2 => ?_)
  refine lv_iconst (v := 1) hx hb dX11_isSet_10 (by decide) ?_
  refine i_subk hx hb dX11_isSet_11 iz2 (k := 1) rfl (lo := (-1)) (hi := 7) (by decide) (fun z3 ez3 mz3 iz3 => ?_)
  refine lv_i2l hx hb dX11_isSet_12 rfl (i_topL iz3 (fun w4 ew4 mw4 iw4 => ?_))
  refine k_i (r_S C h hl (As := [.long w1, .long 0, .long w4]) (rest := []) (s_X11_isIn l D G b0 τ f t w1 0 w4) mk_X11_isIn w_1624 w_1625 w_1626 ⟨Nat.le_of_ble_eq_true rfl, Nat.le_of_ble_eq_true rfl⟩ rfl (Nat.le_of_ble_eq_true rfl) ⟨Nat.le_of_ble_eq_true rfl, Nat.le_of_ble_eq_true rfl⟩ rfl dX11_isSet_13) h (fun r5 f6 H locs p7 h => ?_)
  have n8 : (0 : Int64).toInt = 0 := rfl
  obtain ⟨ir5, tf6, ogf6, cnr5⟩ := p7
  have egf6 := Fr.nil2 ogf6
  subst egf6
  exact u_zret C h hr hQ ir5 (⟨ir5, t, o, (by intro h_; have h9_ := cnr5 h_; omega)⟩) (Nat.le_of_ble_eq_true rfl) (Nat.le_of_ble_eq_true rfl) dX11_isSet_16
abbrev rm_s_X11_exact : Room := { frames := 3, cells := 0, slots := 0, locals := 83 }
set_option maxRecDepth 100000 in
set_option maxHeartbeats 4000000 in
theorem s_X11_exact (l : Launch) (D : va_G) (G : Nat → Nat) (b0 : Nat) (τ : Nat → Nat) (f : hM) (t : TI G 9 τ f) (u0 : Nat) (hu0 : τ u0 = 60) (u1 : Int32) (hu1 : iv u1 (-2147483648) 2147483647) (u2 : Int32) (hu2 : iv u2 (-2147483648) 2147483647) (u3 : Int32) (hu3 : iv u3 (-2147483648) 2147483647) (u4 : Int32) (hu4 : iv u4 (-2147483648) 2147483647) (hNG : NGs τ f u0) (bq : Nat) (hbq : τ bq = 63) (kbq : atp f u0 (fd 6 (.ref bq))) (r0 : Nat → Int32) (hr0 : atp f bq (eqc (.inl (G 1, 81, .inl r0)))) (hpos : ∀ j : Nat, (j : Int) < (r0 80).toInt → ∃ k : Nat, k < 8 ∧ ∀ x : Int32, x.toInt = 10 * j + k → 0 < (r0 x.toNatClampNeg).toInt) : mL l yX11_exact cX11_exact 5 rm_s_X11_exact D G b0 f [.ref u0, .int u1, .int u2, .int u3, .int u4] (fun r f1 => TI G 9 τ f1 ∧ Fr [60, 67, 60001, 60013, 60014, 60015] τ f f1 ∧ NGs τ f1 u0) := by
  refine met2 (own := RX11) (by decide) rfl (Nat.le_of_ble_eq_true rfl) ?_
  intro p e s m args below meth c ls Q hQ C hr hini hl h
  have hl : lv_has ls 5 [(0, .ref u0), (1, .int u1), (2, .int u2), (3, .int u3), (4, .int u4)] := hl
  obtain ⟨hx, hb, hml, hown, hts, hE0, hlk⟩ := id C
  have o := Fr.rf [60, 67, 60001, 60013, 60014, 60015] τ f
  refine lv_aload_n hx hb dX11_exact_0 rfl (lv_at hl 0 rfl) ?_
  refine lv_iconst (v := 0) hx hb dX11_exact_1 (by decide) ?_
  refine t_put C h t o hu0 (by decide) (by decide) (by decide) wf_60 fw_60 (k := 0) rfl flw_X11_75 (Or.inr ⟨_, _, _, rfl, rfl⟩) (v := .int 0) rfl rfl ⟨_, rfl, ⟨by decide, by decide⟩⟩ dX11_exact_2 (fun f1 H locs h tf1 of1 hq ha_ hn_ hk_ => ?_)
  have k2 := NGs.pk hNG hk_ (by decide) (by decide)
  have k3 := hk_ 6 _ (by decide) kbq
  have k4 := atp.tg hr0 hq hbq (by decide)
  have k5 := ha_
  refine lv_aload_n hx hb dX11_exact_5 rfl (lv_at hl 0 rfl) ?_
  refine lv_iload_n hx hb dX11_exact_6 rfl (lv_at hl 1 rfl) ?_
  obtain ⟨_, r6⟩ := t_rec tf1 hu0 (by decide) wf_60
  refine k_i (r_V C h hl (As := [.int u1]) (rest := []) (s_X11_isSetE l D G b0 τ f1 tf1 u0 hu0 u1 hu1 bq hbq k3 r0 k4 ) r6 (Cn := RX11) (T := TX11) (N := 32) rfl rfl mk_X11_isSet w_1620 w_1622 w_51 w_1623 ⟨Nat.le_of_ble_eq_true rfl, Nat.le_of_ble_eq_true rfl⟩ rfl (Nat.le_of_ble_eq_true rfl) ⟨Nat.le_of_ble_eq_true rfl, Nat.le_of_ble_eq_true rfl⟩ rfl dX11_exact_7) h (fun r7 f8 H locs p9 h => ?_)
  obtain ⟨ir7, tf8, ogf8, cnr7⟩ := p9
  have egf8 := Fr.nil2 ogf8
  subst egf8
  refine lv_if_eq (tgt := 38) hx hb dX11_exact_10 (by decide) (fun c10 => ?_) (fun c10 => ?_)
  · have c11 : r7.toInt = 0 := congrArg Int32.toInt c10
    have i12 : iv r7 0 0 := iv_Q c11 ir7 (iv_k (x := 0) (k := 0) rfl) (by decide)
    refine lv_ldc2 (v := -1) hx hb hown (hts _ w_1748) dX11_exact_38 ?_
    exact u_lret C h hr hQ (⟨tf1, of1, k2⟩) (Nat.le_of_ble_eq_true rfl) (Nat.le_of_ble_eq_true rfl) dX11_exact_41
  · have c13 : r7.toInt ≠ 0 := fun z_ => c10 (Int32.toInt_inj.mp z_)
    have i14 : iv r7 1 1 := iv_Nl c13 ir7 (by decide)
    obtain ⟨i15, i16⟩ := cnr7 c13
    refine lv_iload_n hx hb dX11_exact_13 rfl (lv_at hl 2 rfl) ?_
    refine k_i (r_S C h hl (As := [.int u2]) (rest := []) (s_X11_isLong l D G b0 τ f1 tf1 u2 hu2) mk_X11_isLong w_1689 w_1690 w_1691 ⟨Nat.le_of_ble_eq_true rfl, Nat.le_of_ble_eq_true rfl⟩ rfl (Nat.le_of_ble_eq_true rfl) ⟨Nat.le_of_ble_eq_true rfl, Nat.le_of_ble_eq_true rfl⟩ rfl dX11_exact_14) h (fun r17 f18 H locs p19 h => ?_)
    obtain ⟨ir17, tf18, ogf18, cnr17⟩ := p19
    have egf18 := Fr.nil2 ogf18
    subst egf18
    refine lv_if_eq (tgt := 38) hx hb dX11_exact_17 (by decide) (fun c20 => ?_) (fun c20 => ?_)
    · have c21 : r17.toInt = 0 := congrArg Int32.toInt c20
      have i22 : iv r17 0 0 := iv_Q c21 ir17 (iv_k (x := 0) (k := 0) rfl) (by decide)
      refine lv_ldc2 (v := -1) hx hb hown (hts _ w_1748) dX11_exact_38 ?_
      exact u_lret C h hr hQ (⟨tf1, of1, k2⟩) (Nat.le_of_ble_eq_true rfl) (Nat.le_of_ble_eq_true rfl) dX11_exact_41
    · have c23 : r17.toInt ≠ 0 := fun z_ => c20 (Int32.toInt_inj.mp z_)
      have i24 : iv r17 1 1 := iv_Nl c23 ir17 (by decide)
      have i25 := cnr17 c23
      refine lv_iload_n hx hb dX11_exact_20 rfl (lv_at hl 3 rfl) ?_
      refine lv_iload hx hb dX11_exact_21 (lv_at hl 4 rfl) ?_
      refine k_i (r_S C h hl (As := [.int u3, .int u4]) (rest := []) (s_X11_isFar l D G b0 τ f1 tf1 u3 hu3 u4 hu4) mk_X11_isFar w_1693 w_1694 w_1695 ⟨Nat.le_of_ble_eq_true rfl, Nat.le_of_ble_eq_true rfl⟩ rfl (Nat.le_of_ble_eq_true rfl) ⟨Nat.le_of_ble_eq_true rfl, Nat.le_of_ble_eq_true rfl⟩ rfl dX11_exact_23) h (fun r26 f27 H locs p28 h => ?_)
      obtain ⟨ir26, tf27, ogf27, czr26⟩ := p28
      have egf27 := Fr.nil2 ogf27
      subst egf27
      refine lv_if_ne (tgt := 38) hx hb dX11_exact_26 (by decide) (fun c29 => ?_) (fun c29 => ?_)
      · have c30 : r26.toInt ≠ 0 := fun z_ => c29 (Int32.toInt_inj.mp z_)
        have i31 : iv r26 1 1 := iv_Nl c30 ir26 (by decide)
        refine lv_ldc2 (v := -1) hx hb hown (hts _ w_1748) dX11_exact_38 ?_
        exact u_lret C h hr hQ (⟨tf1, of1, k2⟩) (Nat.le_of_ble_eq_true rfl) (Nat.le_of_ble_eq_true rfl) dX11_exact_41
      · have c32 : r26.toInt = 0 := congrArg Int32.toInt c29
        have i33 : iv r26 0 0 := iv_Q c32 ir26 (iv_k (x := 0) (k := 0) rfl) (by decide)
        obtain ⟨i34, i35⟩ := czr26 c32
        refine lv_aload_n hx hb dX11_exact_29 rfl (lv_at hl 0 rfl) ?_
        refine lv_iload_n hx hb dX11_exact_30 rfl (lv_at hl 1 rfl) ?_
        refine lv_iload_n hx hb dX11_exact_31 rfl (lv_at hl 2 rfl) ?_
        obtain ⟨k0, hk0, hp9⟩ := hpos u1.toInt.toNat (by omega)
        have hp0 : ∀ x : Int32, x.toInt = 10 * u1.toInt + k0 → 0 < (r0 x.toNatClampNeg).toInt := fun x hx9 => hp9 x (by omega)
        obtain ⟨_, r36⟩ := t_rec tf1 hu0 (by decide) wf_60
        refine k_i (r_V C h hl (As := [.int u1, .int u2]) (rest := []) (s_X11_isExactE l D G b0 τ f1 tf1 u0 hu0 u1 i15 u2 (iv_w i25 (by decide)) bq hbq k3 r0 k4 k0 hk0 hp0) r36 (Cn := RX11) (T := TX11) (N := 32) rfl rfl mk_X11_isExact w_1743 w_1745 w_63 w_1746 ⟨Nat.le_of_ble_eq_true rfl, Nat.le_of_ble_eq_true rfl⟩ rfl (Nat.le_of_ble_eq_true rfl) ⟨Nat.le_of_ble_eq_true rfl, Nat.le_of_ble_eq_true rfl⟩ rfl dX11_exact_32) h (fun r37 f38 H locs p39 h => ?_)
        obtain ⟨ir37, tf38, ogf38⟩ := p39
        have egf38 := Fr.nil2 ogf38
        subst egf38
        refine lv_if_ne (tgt := 42) hx hb dX11_exact_35 (by decide) (fun c40 => ?_) (fun c40 => ?_)
        · have c41 : r37.toInt ≠ 0 := fun z_ => c40 (Int32.toInt_inj.mp z_)
          have i42 : iv r37 1 1 := iv_Nl c41 ir37 (by decide)
          refine lv_aload_n hx hb dX11_exact_42 rfl (lv_at hl 0 rfl) ?_
          refine lv_iload_n hx hb dX11_exact_43 rfl (lv_at hl 1 rfl) ?_
          refine lv_iconst (v := 0) hx hb dX11_exact_44 (by decide) ?_
          refine lv_iconst (v := 2) hx hb dX11_exact_45 (by decide) ?_
          refine lv_iload_n hx hb dX11_exact_46 rfl (lv_at hl 2 rfl) ?_
          obtain ⟨_, r45⟩ := t_rec tf1 hu0 (by decide) wf_60
          refine k_v (r_V C h hl (As := [.int u1, .int 0, .int 2, .int u2]) (rest := []) (s_X11_goesOn l D G b0 τ f1 tf1 u0 hu0 u1 i15 0 (iv_w (iv_k (x := 0) (k := 0) rfl) (by decide)) 2 (iv_w (iv_k (x := 2) (k := 2) rfl) (by decide)) u2 i25 k2) r45 (Cn := RX11) (T := TX11) (N := 32) rfl rfl mk_X11_goesOn w_1698 w_1700 w_57 w_1701 ⟨Nat.le_of_ble_eq_true rfl, Nat.le_of_ble_eq_true rfl⟩ rfl (Nat.le_of_ble_eq_true rfl) ⟨Nat.le_of_ble_eq_true rfl, Nat.le_of_ble_eq_true rfl⟩ rfl dX11_exact_47) h (fun f47 H locs p48 h => ?_)
          have n49 : (0 : Int32).toInt = 0 := rfl
          have n50 : (2 : Int32).toInt = 2 := rfl
          obtain ⟨tf47, ogf47, ⟨gg_f47, kpu0_14f47, ipu0_14f47, rpu0_14f47⟩, ngf47⟩ := p48
          have of47 : Fr [60, 67, 60001, 60013, 60014, 60015] τ f f47 := Fr.tr of1 ogf47 (by decide) (by decide)
          have k51 := atp.fk k3 ogf47 hu0 (by decide) (by decide)
          have k52 := atp.fr k4 ogf47 hbq (by decide)
          refine lv_aload_n hx hb dX11_exact_50 rfl (lv_at hl 0 rfl) ?_
          refine lv_iload_n hx hb dX11_exact_51 rfl (lv_at hl 3 rfl) ?_
          refine lv_iload hx hb dX11_exact_52 (lv_at hl 4 rfl) ?_
          obtain ⟨_, r53⟩ := t_rec tf47 hu0 (by decide) wf_60
          refine k_l (r_V C h hl (As := [.int u3, .int u4]) (rest := []) (s_X11_gridAt l D G b0 τ f47 tf47 u0 hu0 u3 (iv_w i34 (by decide)) u4 (iv_w i35 (by decide))) r53 (Cn := RX11) (T := TX11) (N := 32) rfl rfl mk_X11_gridAt w_1720 w_1722 w_60 w_1723 ⟨Nat.le_of_ble_eq_true rfl, Nat.le_of_ble_eq_true rfl⟩ rfl (Nat.le_of_ble_eq_true rfl) ⟨Nat.le_of_ble_eq_true rfl, Nat.le_of_ble_eq_true rfl⟩ rfl dX11_exact_54) h (fun r54 f55 H locs p56 h => ?_)
          obtain ⟨tf55, ogf55⟩ := p56
          have egf55 := Fr.nil2 ogf55
          subst egf55
          exact u_lret C h hr hQ (⟨tf47, of47, ngf47⟩) (Nat.le_of_ble_eq_true rfl) (Nat.le_of_ble_eq_true rfl) dX11_exact_57
        · have c43 : r37.toInt = 0 := congrArg Int32.toInt c40
          have i44 : iv r37 0 0 := iv_Q c43 ir37 (iv_k (x := 0) (k := 0) rfl) (by decide)
          refine lv_ldc2 (v := -1) hx hb hown (hts _ w_1748) dX11_exact_38 ?_
          exact u_lret C h hr hQ (⟨tf1, of1, k2⟩) (Nat.le_of_ble_eq_true rfl) (Nat.le_of_ble_eq_true rfl) dX11_exact_41
