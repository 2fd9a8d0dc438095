theorem dX5_copy_0 : decode cX5_copy 0 = .ok (.iconst 0, 1) := by decide +kernel
theorem dX5_copy_1 : decode cX5_copy 1 = .ok (.istore_n 2, 1) := by decide +kernel
theorem dX5_copy_2 : decode cX5_copy 2 = .ok (.iload_n 2, 1) := by decide +kernel
theorem dX5_copy_3 : decode cX5_copy 3 = .ok (.bipush 8, 2) := by decide +kernel
theorem dX5_copy_5 : decode cX5_copy 5 = .ok (.if_icmp .ge 21, 3) := by decide +kernel
theorem dX5_copy_8 : decode cX5_copy 8 = .ok (.aload_n 0, 1) := by decide +kernel
theorem dX5_copy_9 : decode cX5_copy 9 = .ok (.getfield 11, 3) := by decide +kernel
theorem w_176 : Cond.fieldLink "QuarterWalks$Shelf" 11 "QuarterWalks$Shelf" "sets" "[LQuarterWalks$StepSet;" ∈ wAll := wI1 81 (by decide +kernel) (by decide +kernel)
theorem fl_X5_11 : fl RX5 11 6 0 := ⟨RX5, TX5, 2, rfl, inA_X5, by decide, w_176⟩
theorem dX5_copy_12 : decode cX5_copy 12 = .ok (.iload_n 2, 1) := by decide +kernel
theorem dX5_copy_13 : decode cX5_copy 13 = .ok (.aload_n 1, 1) := by decide +kernel
theorem dX5_copy_14 : decode cX5_copy 14 = .ok (.getfield 11, 3) := by decide +kernel
theorem dX5_copy_17 : decode cX5_copy 17 = .ok (.iload_n 2, 1) := by decide +kernel
theorem dX5_copy_18 : decode cX5_copy 18 = .ok (.aaload, 1) := by decide +kernel
theorem dX5_copy_19 : decode cX5_copy 19 = .ok (.aastore, 1) := by decide +kernel
theorem dX5_copy_20 : decode cX5_copy 20 = .ok (.iinc 2 1, 3) := by decide +kernel
theorem dX5_copy_23 : decode cX5_copy 23 = .ok (.goto (-21), 3) := by decide +kernel
theorem dX5_copy_26 : decode cX5_copy 26 = .ok (.aload_n 0, 1) := by decide +kernel
theorem dX5_copy_27 : decode cX5_copy 27 = .ok (.aload_n 1, 1) := by decide +kernel
theorem dX5_copy_28 : decode cX5_copy 28 = .ok (.getfield 15, 3) := by decide +kernel
theorem w_179 : Cond.fieldLink "QuarterWalks$Shelf" 15 "QuarterWalks$Shelf" "size" "I" ∈ wAll := wI1 84 (by decide +kernel) (by decide +kernel)
theorem fl_X5_15 : fl RX5 15 6 1 := ⟨RX5, TX5, 2, rfl, inA_X5, by decide, w_179⟩
theorem dX5_copy_31 : decode cX5_copy 31 = .ok (.putfield 15, 3) := by decide +kernel
theorem flw_X5_15 : flw RX5 15 6 1 (.int) := ⟨RX5, TX5, 2, tyX5, rfl, inA_X5, by decide, w_179, tyX5_ok, nmX5, by decide +kernel, Or.inl rfl⟩
theorem dX5_copy_34 : decode cX5_copy 34 = .ok (.return_, 1) := by decide +kernel
abbrev rm_s_X5_copy18_15 : Room := { frames := 0, cells := 0, slots := 0, locals := 0 }
set_option maxRecDepth 100000 in
set_option maxHeartbeats 4000000 in
theorem s_X5_copy18_15 (l : Launch) (D : va_G) (G : Nat → Nat) (b0 : Nat) (τ : Nat → Nat) (f : hM) (t : TI G 9 τ f) (u0 : Nat) (hu0 : τ u0 = 18) (u1 : Nat) (hu1 : τ u1 = 15) (qa : Nat) (hqa : τ qa = 4) (k_u0_0 : atp f u0 (fd 0 (.ref qa))) (qb : Nat) (hqb : τ qb = 4) (k_u1_0 : atp f u1 (fd 0 (.ref qb))) (sz : Int32) (hsz : iv sz 0 8) (k_u1_1 : atp f u1 (fd 1 (.int sz))) (ra : Nat → Option Nat) (hRqa : atp f qa (eqr G 4 8 ra)) (rb : Nat → Option Nat) (hRqb : atp f qb (eqr G 4 8 rb)) (hab : qb ≠ qa) : mV l yX5_copy cX5_copy 3 rm_s_X5_copy18_15 D G b0 f [.ref u0, .ref u1] (fun f1 => TI G 9 τ f1 ∧ Fr [4, 18, 18002] τ f f1 ∧ (∃ sz1 : Int32, atp f1 u0 (fd 1 (.int sz1)) ∧ iv sz1 0 8 ∧ sz1.toInt = sz.toInt) ∧ (∃ ra1 : Nat → Option Nat, atp f1 qa (eqr G 4 8 ra1) ∧ (∀ k : Nat, k < 8 → ra1 k = rb k)) ∧ FX [qa, u0] f f1) := by
  refine met2 (own := RX5) (by decide) rfl (Nat.le_of_ble_eq_true rfl) ?_
  intro p e s m args below meth c ls Q hQ C hr hini hl h
  have hl : lv_has ls 3 [(0, .ref u0), (1, .ref u1)] := hl
  obtain ⟨hx, hb, hml, hown, hts, hE0, hlk⟩ := id C
  have o := Fr.rf [4, 18, 18002] τ f
  have hfx := FX.rf [qa, u0] f
  have L2 : ∀ (n2 : Nat) (ls : Array Slot) (f_2 : hM) (H : Heap) (locs : List Loc) (v2_2 : Int32) (g2_qa_R : Nat → Option Nat), 8 - v2_2.toInt < (n2 : Int) → lv_has ls 3 [(0, .ref u0), (1, .ref u1), (2, .int v2_2)] → hw D b0 s.heap f_2 H locs → TI G 9 τ f_2 → Fr [4, 18, 18002] τ f f_2 → iv v2_2 0 8 → atp f_2 u0 (fd 0 (.ref qa)) → atp f_2 u1 (fd 0 (.ref qb)) → atp f_2 u1 (fd 1 (.int sz)) → atp f_2 qa (eqr G 4 8 g2_qa_R) → atp f_2 qb (eqr G 4 8 rb) → FX [qa, u0] f f_2 → (∀ k : Nat, g2_qa_R k = if (k : Int) < v2_2.toInt then rb k else ra k) → W p l e rm_s_X5_copy18_15 s m args below meth c H locs 0 0 Q (F0 m 2 ls []) := by
    intro n2
    induction n2 with
    | zero => intro ls f_2 H locs v2_2 g2_qa_R hm2 hl h t_2 o_2 iv2_2 k2_u0_0 k2_u1_0 k2_u1_1 k2_qa_R k2_qb_R k2_fx_FX hv2_0; exact absurd hm2 (by omega)
    | succ n2 ih2 =>
      intro ls f_2 H locs v2_2 g2_qa_R hm2 hl h t_2 o_2 iv2_2 k2_u0_0 k2_u1_0 k2_u1_1 k2_qa_R k2_qb_R k2_fx_FX hv2_0
      refine lv_iload_n hx hb dX5_copy_2 rfl (lv_at hl 2 rfl) ?_
      refine lv_bipush (v := 8) hx hb dX5_copy_3 (by decide) ?_
      refine lv_icmp_ge (tgt := 26) hx hb dX5_copy_5 (by decide) (fun c1 => ?_) (fun c1 => ?_)
      · have c2 : 8 ≤ v2_2.toInt := Int32.le_iff_toInt_le.mp c1
        have i3 : iv v2_2 8 8 := iv_Er c2 (iv_k (x := 8) (k := 8) rfl) iv2_2 (by decide)
        refine lv_aload_n hx hb dX5_copy_26 rfl (lv_at hl 0 rfl) ?_
        refine lv_aload_n hx hb dX5_copy_27 rfl (lv_at hl 1 rfl) ?_
        refine t_getfd C h t_2 hu1 (by decide) wf_15 (v := .int sz) k2_u1_1 fl_X5_15 dX5_copy_28 ?_
        refine t_put C h t_2 o_2 hu0 (by decide) (by decide) (by decide) wf_18 fw_18 (k := 1) rfl flw_X5_15 (Or.inr ⟨_, _, _, rfl, rfl⟩) (v := .int sz) rfl rfl ⟨_, rfl, hsz⟩ dX5_copy_31 (fun f6 H locs h tf6 of6 hq ha_ hn_ hk_ => ?_)
        have k7 := hk_ 0 _ (by decide) k2_u0_0
        have k8 := atp.tg k2_u1_0 hq hu1 (by decide)
        have k9 := atp.tg k2_u1_1 hq hu1 (by decide)
        have k10 := atp.tg k2_qa_R hq hqa (by decide)
        have k11 := atp.tg k2_qb_R hq hqb (by decide)
        have k12 := FX.up k2_fx_FX hn_ (by simp)
        have k13 := ha_
        exact u_vret C h hr hQ (⟨tf6, of6, ⟨sz, k13, hsz, (by omega)⟩, ⟨g2_qa_R, k10, (fun k hk => by rw [hv2_0 k]; (repeat' split) <;> first | rfl | (exfalso; omega) | (exact congrArg _ (by omega)))⟩, k12⟩) (Nat.le_of_ble_eq_true rfl) (Nat.le_of_ble_eq_true rfl) dX5_copy_34
      · have c4 : v2_2.toInt < 8 := Int32.lt_iff_toInt_lt.mp (iv_nle c1)
        have i5 : iv v2_2 0 7 := iv_Ll c4 iv2_2 (iv_k (x := 8) (k := 8) rfl) (by decide)
        refine lv_aload_n hx hb dX5_copy_8 rfl (lv_at hl 0 rfl) ?_
        refine t_getfd C h t_2 hu0 (by decide) wf_18 (v := .ref qa) k2_u0_0 fl_X5_11 dX5_copy_9 ?_
        refine lv_iload_n hx hb dX5_copy_12 rfl (lv_at hl 2 rfl) ?_
        refine lv_aload_n hx hb dX5_copy_13 rfl (lv_at hl 1 rfl) ?_
        refine t_getfd C h t_2 hu1 (by decide) wf_15 (v := .ref qb) k2_u1_0 fl_X5_11 dX5_copy_14 ?_
        refine lv_iload_n hx hb dX5_copy_17 rfl (lv_at hl 2 rfl) ?_
        refine e_aaldO C h t_2 (g := 4) rfl hqb (by decide) wf_4 k2_qb_R (iv_in i5 (by decide)) dX5_copy_18 (fun q14 eq14 tq14 => ?_)
        refine e_aastO C h t_2 o_2 (g := 4) (ci := 7) (rr := (RX6, TX6, 4)) rfl rfl hqa (by decide) (by decide) wf_4 fw_4 (by decide) wf_1 k2_qa_R (iv_in i5 (by decide)) (x := q14) tq14 dX5_copy_19 (fun R17 f15 erR17 H locs h tf15 of15 hq hn_ k16 => ?_) rfl
        have k18 := atp.tg k2_u0_0 hq hu0 (by decide)
        have k19 := atp.tg k2_u1_0 hq hu1 (by decide)
        have k20 := atp.tg k2_u1_1 hq hu1 (by decide)
        have k22 := atp.tr k2_qb_R (hn_ qb hab)
        have k23 := FX.up k2_fx_FX hn_ (by simp)
        refine i_inc hx hb dX5_copy_20 hl (k := 2) rfl i5 rfl (lo := 1) (hi := 8) (by decide) (by decide) (lv' := fun v => [(2, .int v), (0, .ref u0), (1, .ref u1)]) (fun _ => rfl) (fun z24 ls ez24 mz24 iz24 hl => ?_)
        refine lv_goto (tgt := 2) hx hb dX5_copy_23 (by decide) ?_
        exact ih2 ls f15 H locs z24 R17 (show 8 - z24.toInt < _ by omega) (lv_cons hl 1 rfl (lv_cons hl 2 rfl (lv_cons hl 0 rfl (lv_nil hl)))) h tf15 of15 (iv_w iz24 (by decide)) k18 k19 k20 k16 k22 k23 (show ∀ k : Nat, R17 k = if (k : Int) < z24.toInt then rb k else ra k from (by
            intro k; rw [erR17]; by_cases q_ : k = v2_2.toInt.toNat
            · rw [va_up_at q_, eq14]; (repeat' split) <;> first | rfl | (exfalso; omega) | (exact congrArg _ (by omega))
            · rw [va_up_off q_, hv2_0 k]; (repeat' split) <;> first | rfl | (exfalso; omega) | (exact congrArg _ (by omega))))
  refine lv_iconst (v := 0) hx hb dX5_copy_0 (by decide) ?_
  refine lv_istore_n (lv' := [(2, .int 0), (0, .ref u0), (1, .ref u1)]) hx hb dX5_copy_1 rfl hl (by decide) rfl (fun ls hl => ?_)
  exact L2 9 ls f s.heap [] 0 ra (by decide) (lv_cons hl 1 rfl (lv_cons hl 2 rfl (lv_cons hl 0 rfl (lv_nil hl)))) h t o ⟨by decide, by decide⟩ k_u0_0 k_u1_0 k_u1_1 hRqa hRqb hfx (show ∀ k : Nat, ra k = if (k : Int) < 0 then rb k else ra k from (by
      intro k; (repeat' split) <;> first | rfl | (exfalso; omega) | (exact congrArg _ (by omega))))
abbrev rm_s_X5_copy15_18 : Room := { frames := 0, cells := 0, slots := 0, locals := 0 }
set_option maxRecDepth 100000 in
set_option maxHeartbeats 4000000 in
theorem s_X5_copy15_18 (l : Launch) (D : va_G) (G : Nat → Nat) (b0 : Nat) (τ : Nat → Nat) (f : hM) (t : TI G 9 τ f) (u0 : Nat) (hu0 : τ u0 = 15) (u1 : Nat) (hu1 : τ u1 = 18) (qa : Nat) (hqa : τ qa = 4) (k_u0_0 : atp f u0 (fd 0 (.ref qa))) (qb : Nat) (hqb : τ qb = 4) (k_u1_0 : atp f u1 (fd 0 (.ref qb))) (sz : Int32) (hsz : iv sz 0 8) (k_u1_1 : atp f u1 (fd 1 (.int sz))) (ra : Nat → Option Nat) (hRqa : atp f qa (eqr G 4 8 ra)) (rb : Nat → Option Nat) (hRqb : atp f qb (eqr G 4 8 rb)) (hab : qb ≠ qa) : mV l yX5_copy cX5_copy 3 rm_s_X5_copy15_18 D G b0 f [.ref u0, .ref u1] (fun f1 => TI G 9 τ f1 ∧ Fr [4, 15, 15002] τ f f1 ∧ (∃ sz1 : Int32, atp f1 u0 (fd 1 (.int sz1)) ∧ iv sz1 0 8 ∧ sz1.toInt = sz.toInt) ∧ (∃ ra1 : Nat → Option Nat, atp f1 qa (eqr G 4 8 ra1) ∧ (∀ k : Nat, k < 8 → ra1 k = rb k)) ∧ FX [qa, u0] f f1) := by
  refine met2 (own := RX5) (by decide) rfl (Nat.le_of_ble_eq_true rfl) ?_
  intro p e s m args below meth c ls Q hQ C hr hini hl h
  have hl : lv_has ls 3 [(0, .ref u0), (1, .ref u1)] := hl
  obtain ⟨hx, hb, hml, hown, hts, hE0, hlk⟩ := id C
  have o := Fr.rf [4, 15, 15002] τ f
  have hfx := FX.rf [qa, u0] f
  have L2 : ∀ (n2 : Nat) (ls : Array Slot) (f_2 : hM) (H : Heap) (locs : List Loc) (v2_2 : Int32) (g2_qa_R : Nat → Option Nat), 8 - v2_2.toInt < (n2 : Int) → lv_has ls 3 [(0, .ref u0), (1, .ref u1), (2, .int v2_2)] → hw D b0 s.heap f_2 H locs → TI G 9 τ f_2 → Fr [4, 15, 15002] τ f f_2 → iv v2_2 0 8 → atp f_2 u0 (fd 0 (.ref qa)) → atp f_2 u1 (fd 0 (.ref qb)) → atp f_2 u1 (fd 1 (.int sz)) → atp f_2 qa (eqr G 4 8 g2_qa_R) → atp f_2 qb (eqr G 4 8 rb) → FX [qa, u0] f f_2 → (∀ k : Nat, g2_qa_R k = if (k : Int) < v2_2.toInt then rb k else ra k) → W p l e rm_s_X5_copy15_18 s m args below meth c H locs 0 0 Q (F0 m 2 ls []) := by
    intro n2
    induction n2 with
    | zero => intro ls f_2 H locs v2_2 g2_qa_R hm2 hl h t_2 o_2 iv2_2 k2_u0_0 k2_u1_0 k2_u1_1 k2_qa_R k2_qb_R k2_fx_FX hv2_0; exact absurd hm2 (by omega)
    | succ n2 ih2 =>
      intro ls f_2 H locs v2_2 g2_qa_R hm2 hl h t_2 o_2 iv2_2 k2_u0_0 k2_u1_0 k2_u1_1 k2_qa_R k2_qb_R k2_fx_FX hv2_0
      refine lv_iload_n hx hb dX5_copy_2 rfl (lv_at hl 2 rfl) ?_
      refine lv_bipush (v := 8) hx hb dX5_copy_3 (by decide) ?_
      refine lv_icmp_ge (tgt := 26) hx hb dX5_copy_5 (by decide) (fun c1 => ?_) (fun c1 => ?_)
      · have c2 : 8 ≤ v2_2.toInt := Int32.le_iff_toInt_le.mp c1
        have i3 : iv v2_2 8 8 := iv_Er c2 (iv_k (x := 8) (k := 8) rfl) iv2_2 (by decide)
        refine lv_aload_n hx hb dX5_copy_26 rfl (lv_at hl 0 rfl) ?_
        refine lv_aload_n hx hb dX5_copy_27 rfl (lv_at hl 1 rfl) ?_
        refine t_getfd C h t_2 hu1 (by decide) wf_18 (v := .int sz) k2_u1_1 fl_X5_15 dX5_copy_28 ?_
        refine t_put C h t_2 o_2 hu0 (by decide) (by decide) (by decide) wf_15 fw_15 (k := 1) rfl flw_X5_15 (Or.inr ⟨_, _, _, rfl, rfl⟩) (v := .int sz) rfl rfl ⟨_, rfl, hsz⟩ dX5_copy_31 (fun f6 H locs h tf6 of6 hq ha_ hn_ hk_ => ?_)
        have k7 := hk_ 0 _ (by decide) k2_u0_0
        have k8 := atp.tg k2_u1_0 hq hu1 (by decide)
        have k9 := atp.tg k2_u1_1 hq hu1 (by decide)
        have k10 := atp.tg k2_qa_R hq hqa (by decide)
        have k11 := atp.tg k2_qb_R hq hqb (by decide)
        have k12 := FX.up k2_fx_FX hn_ (by simp)
        have k13 := ha_
        exact u_vret C h hr hQ (⟨tf6, of6, ⟨sz, k13, hsz, (by omega)⟩, ⟨g2_qa_R, k10, (fun k hk => by rw [hv2_0 k]; (repeat' split) <;> first | rfl | (exfalso; omega) | (exact congrArg _ (by omega)))⟩, k12⟩) (Nat.le_of_ble_eq_true rfl) (Nat.le_of_ble_eq_true rfl) dX5_copy_34
      · have c4 : v2_2.toInt < 8 := Int32.lt_iff_toInt_lt.mp (iv_nle c1)
        have i5 : iv v2_2 0 7 := iv_Ll c4 iv2_2 (iv_k (x := 8) (k := 8) rfl) (by decide)
        refine lv_aload_n hx hb dX5_copy_8 rfl (lv_at hl 0 rfl) ?_
        refine t_getfd C h t_2 hu0 (by decide) wf_15 (v := .ref qa) k2_u0_0 fl_X5_11 dX5_copy_9 ?_
        refine lv_iload_n hx hb dX5_copy_12 rfl (lv_at hl 2 rfl) ?_
        refine lv_aload_n hx hb dX5_copy_13 rfl (lv_at hl 1 rfl) ?_
        refine t_getfd C h t_2 hu1 (by decide) wf_18 (v := .ref qb) k2_u1_0 fl_X5_11 dX5_copy_14 ?_
        refine lv_iload_n hx hb dX5_copy_17 rfl (lv_at hl 2 rfl) ?_
        refine e_aaldO C h t_2 (g := 4) rfl hqb (by decide) wf_4 k2_qb_R (iv_in i5 (by decide)) dX5_copy_18 (fun q14 eq14 tq14 => ?_)
        refine e_aastO C h t_2 o_2 (g := 4) (ci := 7) (rr := (RX6, TX6, 4)) rfl rfl hqa (by decide) (by decide) wf_4 fw_4 (by decide) wf_1 k2_qa_R (iv_in i5 (by decide)) (x := q14) tq14 dX5_copy_19 (fun R17 f15 erR17 H locs h tf15 of15 hq hn_ k16 => ?_) rfl
        have k18 := atp.tg k2_u0_0 hq hu0 (by decide)
        have k19 := atp.tg k2_u1_0 hq hu1 (by decide)
        have k20 := atp.tg k2_u1_1 hq hu1 (by decide)
        have k22 := atp.tr k2_qb_R (hn_ qb hab)
        have k23 := FX.up k2_fx_FX hn_ (by simp)
        refine i_inc hx hb dX5_copy_20 hl (k := 2) rfl i5 rfl (lo := 1) (hi := 8) (by decide) (by decide) (lv' := fun v => [(2, .int v), (0, .ref u0), (1, .ref u1)]) (fun _ => rfl) (fun z24 ls ez24 mz24 iz24 hl => ?_)
        refine lv_goto (tgt := 2) hx hb dX5_copy_23 (by decide) ?_
        exact ih2 ls f15 H locs z24 R17 (show 8 - z24.toInt < _ by omega) (lv_cons hl 1 rfl (lv_cons hl 2 rfl (lv_cons hl 0 rfl (lv_nil hl)))) h tf15 of15 (iv_w iz24 (by decide)) k18 k19 k20 k16 k22 k23 (show ∀ k : Nat, R17 k = if (k : Int) < z24.toInt then rb k else ra k from (by
            intro k; rw [erR17]; by_cases q_ : k = v2_2.toInt.toNat
            · rw [va_up_at q_, eq14]; (repeat' split) <;> first | rfl | (exfalso; omega) | (exact congrArg _ (by omega))
            · rw [va_up_off q_, hv2_0 k]; (repeat' split) <;> first | rfl | (exfalso; omega) | (exact congrArg _ (by omega))))
  refine lv_iconst (v := 0) hx hb dX5_copy_0 (by decide) ?_
  refine lv_istore_n (lv' := [(2, .int 0), (0, .ref u0), (1, .ref u1)]) hx hb dX5_copy_1 rfl hl (by decide) rfl (fun ls hl => ?_)
  exact L2 9 ls f s.heap [] 0 ra (by decide) (lv_cons hl 1 rfl (lv_cons hl 2 rfl (lv_cons hl 0 rfl (lv_nil hl)))) h t o ⟨by decide, by decide⟩ k_u0_0 k_u1_0 k_u1_1 hRqa hRqb hfx (show ∀ k : Nat, ra k = if (k : Int) < 0 then rb k else ra k from (by
      intro k; (repeat' split) <;> first | rfl | (exfalso; omega) | (exact congrArg _ (by omega))))
abbrev rm_s_X5_copy16_15 : Room := { frames := 0, cells := 0, slots := 0, locals := 0 }
set_option maxRecDepth 100000 in
set_option maxHeartbeats 4000000 in
theorem s_X5_copy16_15 (l : Launch) (D : va_G) (G : Nat → Nat) (b0 : Nat) (τ : Nat → Nat) (f : hM) (t : TI G 9 τ f) (u0 : Nat) (hu0 : τ u0 = 16) (u1 : Nat) (hu1 : τ u1 = 15) (qa : Nat) (hqa : τ qa = 4) (k_u0_0 : atp f u0 (fd 0 (.ref qa))) (qb : Nat) (hqb : τ qb = 4) (k_u1_0 : atp f u1 (fd 0 (.ref qb))) (sz : Int32) (hsz : iv sz 0 8) (k_u1_1 : atp f u1 (fd 1 (.int sz))) (ra : Nat → Option Nat) (hRqa : atp f qa (eqr G 4 8 ra)) (rb : Nat → Option Nat) (hRqb : atp f qb (eqr G 4 8 rb)) (hab : qb ≠ qa) : mV l yX5_copy cX5_copy 3 rm_s_X5_copy16_15 D G b0 f [.ref u0, .ref u1] (fun f1 => TI G 9 τ f1 ∧ Fr [4, 16, 16002] τ f f1 ∧ (∃ sz1 : Int32, atp f1 u0 (fd 1 (.int sz1)) ∧ iv sz1 0 8 ∧ sz1.toInt = sz.toInt) ∧ (∃ ra1 : Nat → Option Nat, atp f1 qa (eqr G 4 8 ra1) ∧ (∀ k : Nat, k < 8 → ra1 k = rb k)) ∧ FX [qa, u0] f f1) := by
  refine met2 (own := RX5) (by decide) rfl (Nat.le_of_ble_eq_true rfl) ?_
  intro p e s m args below meth c ls Q hQ C hr hini hl h
  have hl : lv_has ls 3 [(0, .ref u0), (1, .ref u1)] := hl
  obtain ⟨hx, hb, hml, hown, hts, hE0, hlk⟩ := id C
  have o := Fr.rf [4, 16, 16002] τ f
  have hfx := FX.rf [qa, u0] f
  have L2 : ∀ (n2 : Nat) (ls : Array Slot) (f_2 : hM) (H : Heap) (locs : List Loc) (v2_2 : Int32) (g2_qa_R : Nat → Option Nat), 8 - v2_2.toInt < (n2 : Int) → lv_has ls 3 [(0, .ref u0), (1, .ref u1), (2, .int v2_2)] → hw D b0 s.heap f_2 H locs → TI G 9 τ f_2 → Fr [4, 16, 16002] τ f f_2 → iv v2_2 0 8 → atp f_2 u0 (fd 0 (.ref qa)) → atp f_2 u1 (fd 0 (.ref qb)) → atp f_2 u1 (fd 1 (.int sz)) → atp f_2 qa (eqr G 4 8 g2_qa_R) → atp f_2 qb (eqr G 4 8 rb) → FX [qa, u0] f f_2 → (∀ k : Nat, g2_qa_R k = if (k : Int) < v2_2.toInt then rb k else ra k) → W p l e rm_s_X5_copy16_15 s m args below meth c H locs 0 0 Q (F0 m 2 ls []) := by
    intro n2
    induction n2 with
    | zero => intro ls f_2 H locs v2_2 g2_qa_R hm2 hl h t_2 o_2 iv2_2 k2_u0_0 k2_u1_0 k2_u1_1 k2_qa_R k2_qb_R k2_fx_FX hv2_0; exact absurd hm2 (by omega)
    | succ n2 ih2 =>
      intro ls f_2 H locs v2_2 g2_qa_R hm2 hl h t_2 o_2 iv2_2 k2_u0_0 k2_u1_0 k2_u1_1 k2_qa_R k2_qb_R k2_fx_FX hv2_0
      refine lv_iload_n hx hb dX5_copy_2 rfl (lv_at hl 2 rfl) ?_
      refine lv_bipush (v := 8) hx hb dX5_copy_3 (by decide) ?_
      refine lv_icmp_ge (tgt := 26) hx hb dX5_copy_5 (by decide) (fun c1 => ?_) (fun c1 => ?_)
      · have c2 : 8 ≤ v2_2.toInt := Int32.le_iff_toInt_le.mp c1
        have i3 : iv v2_2 8 8 := iv_Er c2 (iv_k (x := 8) (k := 8) rfl) iv2_2 (by decide)
        refine lv_aload_n hx hb dX5_copy_26 rfl (lv_at hl 0 rfl) ?_
        refine lv_aload_n hx hb dX5_copy_27 rfl (lv_at hl 1 rfl) ?_
        refine t_getfd C h t_2 hu1 (by decide) wf_15 (v := .int sz) k2_u1_1 fl_X5_15 dX5_copy_28 ?_
        refine t_put C h t_2 o_2 hu0 (by decide) (by decide) (by decide) wf_16 fw_16 (k := 1) rfl flw_X5_15 (Or.inr ⟨_, _, _, rfl, rfl⟩) (v := .int sz) rfl rfl ⟨_, rfl, hsz⟩ dX5_copy_31 (fun f6 H locs h tf6 of6 hq ha_ hn_ hk_ => ?_)
        have k7 := hk_ 0 _ (by decide) k2_u0_0
        have k8 := atp.tg k2_u1_0 hq hu1 (by decide)
        have k9 := atp.tg k2_u1_1 hq hu1 (by decide)
        have k10 := atp.tg k2_qa_R hq hqa (by decide)
        have k11 := atp.tg k2_qb_R hq hqb (by decide)
        have k12 := FX.up k2_fx_FX hn_ (by simp)
        have k13 := ha_
        exact u_vret C h hr hQ (⟨tf6, of6, ⟨sz, k13, hsz, (by omega)⟩, ⟨g2_qa_R, k10, (fun k hk => by rw [hv2_0 k]; (repeat' split) <;> first | rfl | (exfalso; omega) | (exact congrArg _ (by omega)))⟩, k12⟩) (Nat.le_of_ble_eq_true rfl) (Nat.le_of_ble_eq_true rfl) dX5_copy_34
      · have c4 : v2_2.toInt < 8 := Int32.lt_iff_toInt_lt.mp (iv_nle c1)
        have i5 : iv v2_2 0 7 := iv_Ll c4 iv2_2 (iv_k (x := 8) (k := 8) rfl) (by decide)
        refine lv_aload_n hx hb dX5_copy_8 rfl (lv_at hl 0 rfl) ?_
        refine t_getfd C h t_2 hu0 (by decide) wf_16 (v := .ref qa) k2_u0_0 fl_X5_11 dX5_copy_9 ?_
        refine lv_iload_n hx hb dX5_copy_12 rfl (lv_at hl 2 rfl) ?_
        refine lv_aload_n hx hb dX5_copy_13 rfl (lv_at hl 1 rfl) ?_
        refine t_getfd C h t_2 hu1 (by decide) wf_15 (v := .ref qb) k2_u1_0 fl_X5_11 dX5_copy_14 ?_
        refine lv_iload_n hx hb dX5_copy_17 rfl (lv_at hl 2 rfl) ?_
        refine e_aaldO C h t_2 (g := 4) rfl hqb (by decide) wf_4 k2_qb_R (iv_in i5 (by decide)) dX5_copy_18 (fun q14 eq14 tq14 => ?_)
        refine e_aastO C h t_2 o_2 (g := 4) (ci := 7) (rr := (RX6, TX6, 4)) rfl rfl hqa (by decide) (by decide) wf_4 fw_4 (by decide) wf_1 k2_qa_R (iv_in i5 (by decide)) (x := q14) tq14 dX5_copy_19 (fun R17 f15 erR17 H locs h tf15 of15 hq hn_ k16 => ?_) rfl
        have k18 := atp.tg k2_u0_0 hq hu0 (by decide)
        have k19 := atp.tg k2_u1_0 hq hu1 (by decide)
        have k20 := atp.tg k2_u1_1 hq hu1 (by decide)
        have k22 := atp.tr k2_qb_R (hn_ qb hab)
        have k23 := FX.up k2_fx_FX hn_ (by simp)
        refine i_inc hx hb dX5_copy_20 hl (k := 2) rfl i5 rfl (lo := 1) (hi := 8) (by decide) (by decide) (lv' := fun v => [(2, .int v), (0, .ref u0), (1, .ref u1)]) (fun _ => rfl) (fun z24 ls ez24 mz24 iz24 hl => ?_)
        refine lv_goto (tgt := 2) hx hb dX5_copy_23 (by decide) ?_
        exact ih2 ls f15 H locs z24 R17 (show 8 - z24.toInt < _ by omega) (lv_cons hl 1 rfl (lv_cons hl 2 rfl (lv_cons hl 0 rfl (lv_nil hl)))) h tf15 of15 (iv_w iz24 (by decide)) k18 k19 k20 k16 k22 k23 (show ∀ k : Nat, R17 k = if (k : Int) < z24.toInt then rb k else ra k from (by
            intro k; rw [erR17]; by_cases q_ : k = v2_2.toInt.toNat
            · rw [va_up_at q_, eq14]; (repeat' split) <;> first | rfl | (exfalso; omega) | (exact congrArg _ (by omega))
            · rw [va_up_off q_, hv2_0 k]; (repeat' split) <;> first | rfl | (exfalso; omega) | (exact congrArg _ (by omega))))
  refine lv_iconst (v := 0) hx hb dX5_copy_0 (by decide) ?_
  refine lv_istore_n (lv' := [(2, .int 0), (0, .ref u0), (1, .ref u1)]) hx hb dX5_copy_1 rfl hl (by decide) rfl (fun ls hl => ?_)
  exact L2 9 ls f s.heap [] 0 ra (by decide) (lv_cons hl 1 rfl (lv_cons hl 2 rfl (lv_cons hl 0 rfl (lv_nil hl)))) h t o ⟨by decide, by decide⟩ k_u0_0 k_u1_0 k_u1_1 hRqa hRqb hfx (show ∀ k : Nat, ra k = if (k : Int) < 0 then rb k else ra k from (by
      intro k; (repeat' split) <;> first | rfl | (exfalso; omega) | (exact congrArg _ (by omega))))
abbrev rm_s_X5_copy15_16 : Room := { frames := 0, cells := 0, slots := 0, locals := 0 }
set_option maxRecDepth 100000 in
set_option maxHeartbeats 4000000 in
theorem s_X5_copy15_16 (l : Launch) (D : va_G) (G : Nat → Nat) (b0 : Nat) (τ : Nat → Nat) (f : hM) (t : TI G 9 τ f) (u0 : Nat) (hu0 : τ u0 = 15) (u1 : Nat) (hu1 : τ u1 = 16) (qa : Nat) (hqa : τ qa = 4) (k_u0_0 : atp f u0 (fd 0 (.ref qa))) (qb : Nat) (hqb : τ qb = 4) (k_u1_0 : atp f u1 (fd 0 (.ref qb))) (sz : Int32) (hsz : iv sz 0 8) (k_u1_1 : atp f u1 (fd 1 (.int sz))) (ra : Nat → Option Nat) (hRqa : atp f qa (eqr G 4 8 ra)) (rb : Nat → Option Nat) (hRqb : atp f qb (eqr G 4 8 rb)) (hab : qb ≠ qa) : mV l yX5_copy cX5_copy 3 rm_s_X5_copy15_16 D G b0 f [.ref u0, .ref u1] (fun f1 => TI G 9 τ f1 ∧ Fr [4, 15, 15002] τ f f1 ∧ (∃ sz1 : Int32, atp f1 u0 (fd 1 (.int sz1)) ∧ iv sz1 0 8 ∧ sz1.toInt = sz.toInt) ∧ (∃ ra1 : Nat → Option Nat, atp f1 qa (eqr G 4 8 ra1) ∧ (∀ k : Nat, k < 8 → ra1 k = rb k)) ∧ FX [qa, u0] f f1) := by
  refine met2 (own := RX5) (by decide) rfl (Nat.le_of_ble_eq_true rfl) ?_
  intro p e s m args below meth c ls Q hQ C hr hini hl h
  have hl : lv_has ls 3 [(0, .ref u0), (1, .ref u1)] := hl
  obtain ⟨hx, hb, hml, hown, hts, hE0, hlk⟩ := id C
  have o := Fr.rf [4, 15, 15002] τ f
  have hfx := FX.rf [qa, u0] f
  have L2 : ∀ (n2 : Nat) (ls : Array Slot) (f_2 : hM) (H : Heap) (locs : List Loc) (v2_2 : Int32) (g2_qa_R : Nat → Option Nat), 8 - v2_2.toInt < (n2 : Int) → lv_has ls 3 [(0, .ref u0), (1, .ref u1), (2, .int v2_2)] → hw D b0 s.heap f_2 H locs → TI G 9 τ f_2 → Fr [4, 15, 15002] τ f f_2 → iv v2_2 0 8 → atp f_2 u0 (fd 0 (.ref qa)) → atp f_2 u1 (fd 0 (.ref qb)) → atp f_2 u1 (fd 1 (.int sz)) → atp f_2 qa (eqr G 4 8 g2_qa_R) → atp f_2 qb (eqr G 4 8 rb) → FX [qa, u0] f f_2 → (∀ k : Nat, g2_qa_R k = if (k : Int) < v2_2.toInt then rb k else ra k) → W p l e rm_s_X5_copy15_16 s m args below meth c H locs 0 0 Q (F0 m 2 ls []) := by
    intro n2
    induction n2 with
    | zero => intro ls f_2 H locs v2_2 g2_qa_R hm2 hl h t_2 o_2 iv2_2 k2_u0_0 k2_u1_0 k2_u1_1 k2_qa_R k2_qb_R k2_fx_FX hv2_0; exact absurd hm2 (by omega)
    | succ n2 ih2 =>
      intro ls f_2 H locs v2_2 g2_qa_R hm2 hl h t_2 o_2 iv2_2 k2_u0_0 k2_u1_0 k2_u1_1 k2_qa_R k2_qb_R k2_fx_FX hv2_0
      refine lv_iload_n hx hb dX5_copy_2 rfl (lv_at hl 2 rfl) ?_
      refine lv_bipush (v := 8) hx hb dX5_copy_3 (by decide) ?_
      refine lv_icmp_ge (tgt := 26) hx hb dX5_copy_5 (by decide) (fun c1 => ?_) (fun c1 => ?_)
      · have c2 : 8 ≤ v2_2.toInt := Int32.le_iff_toInt_le.mp c1
        have i3 : iv v2_2 8 8 := iv_Er c2 (iv_k (x := 8) (k := 8) rfl) iv2_2 (by decide)
        refine lv_aload_n hx hb dX5_copy_26 rfl (lv_at hl 0 rfl) ?_
        refine lv_aload_n hx hb dX5_copy_27 rfl (lv_at hl 1 rfl) ?_
        refine t_getfd C h t_2 hu1 (by decide) wf_16 (v := .int sz) k2_u1_1 fl_X5_15 dX5_copy_28 ?_
        refine t_put C h t_2 o_2 hu0 (by decide) (by decide) (by decide) wf_15 fw_15 (k := 1) rfl flw_X5_15 (Or.inr ⟨_, _, _, rfl, rfl⟩) (v := .int sz) rfl rfl ⟨_, rfl, hsz⟩ dX5_copy_31 (fun f6 H locs h tf6 of6 hq ha_ hn_ hk_ => ?_)
        have k7 := hk_ 0 _ (by decide) k2_u0_0
        have k8 := atp.tg k2_u1_0 hq hu1 (by decide)
        have k9 := atp.tg k2_u1_1 hq hu1 (by decide)
        have k10 := atp.tg k2_qa_R hq hqa (by decide)
        have k11 := atp.tg k2_qb_R hq hqb (by decide)
        have k12 := FX.up k2_fx_FX hn_ (by simp)
        have k13 := ha_
        exact u_vret C h hr hQ (⟨tf6, of6, ⟨sz, k13, hsz, (by omega)⟩, ⟨g2_qa_R, k10, (fun k hk => by rw [hv2_0 k]; (repeat' split) <;> first | rfl | (exfalso; omega) | (exact congrArg _ (by omega)))⟩, k12⟩) (Nat.le_of_ble_eq_true rfl) (Nat.le_of_ble_eq_true rfl) dX5_copy_34
      · have c4 : v2_2.toInt < 8 := Int32.lt_iff_toInt_lt.mp (iv_nle c1)
        have i5 : iv v2_2 0 7 := iv_Ll c4 iv2_2 (iv_k (x := 8) (k := 8) rfl) (by decide)
        refine lv_aload_n hx hb dX5_copy_8 rfl (lv_at hl 0 rfl) ?_
        refine t_getfd C h t_2 hu0 (by decide) wf_15 (v := .ref qa) k2_u0_0 fl_X5_11 dX5_copy_9 ?_
        refine lv_iload_n hx hb dX5_copy_12 rfl (lv_at hl 2 rfl) ?_
        refine lv_aload_n hx hb dX5_copy_13 rfl (lv_at hl 1 rfl) ?_
        refine t_getfd C h t_2 hu1 (by decide) wf_16 (v := .ref qb) k2_u1_0 fl_X5_11 dX5_copy_14 ?_
        refine lv_iload_n hx hb dX5_copy_17 rfl (lv_at hl 2 rfl) ?_
        refine e_aaldO C h t_2 (g := 4) rfl hqb (by decide) wf_4 k2_qb_R (iv_in i5 (by decide)) dX5_copy_18 (fun q14 eq14 tq14 => ?_)
        refine e_aastO C h t_2 o_2 (g := 4) (ci := 7) (rr := (RX6, TX6, 4)) rfl rfl hqa (by decide) (by decide) wf_4 fw_4 (by decide) wf_1 k2_qa_R (iv_in i5 (by decide)) (x := q14) tq14 dX5_copy_19 (fun R17 f15 erR17 H locs h tf15 of15 hq hn_ k16 => ?_) rfl
        have k18 := atp.tg k2_u0_0 hq hu0 (by decide)
        have k19 := atp.tg k2_u1_0 hq hu1 (by decide)
        have k20 := atp.tg k2_u1_1 hq hu1 (by decide)
        have k22 := atp.tr k2_qb_R (hn_ qb hab)
        have k23 := FX.up k2_fx_FX hn_ (by simp)
        refine i_inc hx hb dX5_copy_20 hl (k := 2) rfl i5 rfl (lo := 1) (hi := 8) (by decide) (by decide) (lv' := fun v => [(2, .int v), (0, .ref u0), (1, .ref u1)]) (fun _ => rfl) (fun z24 ls ez24 mz24 iz24 hl => ?_)
        refine lv_goto (tgt := 2) hx hb dX5_copy_23 (by decide) ?_
        exact ih2 ls f15 H locs z24 R17 (show 8 - z24.toInt < _ by omega) (lv_cons hl 1 rfl (lv_cons hl 2 rfl (lv_cons hl 0 rfl (lv_nil hl)))) h tf15 of15 (iv_w iz24 (by decide)) k18 k19 k20 k16 k22 k23 (show ∀ k : Nat, R17 k = if (k : Int) < z24.toInt then rb k else ra k from (by
            intro k; rw [erR17]; by_cases q_ : k = v2_2.toInt.toNat
            · rw [va_up_at q_, eq14]; (repeat' split) <;> first | rfl | (exfalso; omega) | (exact congrArg _ (by omega))
            · rw [va_up_off q_, hv2_0 k]; (repeat' split) <;> first | rfl | (exfalso; omega) | (exact congrArg _ (by omega))))
  refine lv_iconst (v := 0) hx hb dX5_copy_0 (by decide) ?_
  refine lv_istore_n (lv' := [(2, .int 0), (0, .ref u0), (1, .ref u1)]) hx hb dX5_copy_1 rfl hl (by decide) rfl (fun ls hl => ?_)
  exact L2 9 ls f s.heap [] 0 ra (by decide) (lv_cons hl 1 rfl (lv_cons hl 2 rfl (lv_cons hl 0 rfl (lv_nil hl)))) h t o ⟨by decide, by decide⟩ k_u0_0 k_u1_0 k_u1_1 hRqa hRqb hfx (show ∀ k : Nat, ra k = if (k : Int) < 0 then rb k else ra k from (by
      intro k; (repeat' split) <;> first | rfl | (exfalso; omega) | (exact congrArg _ (by omega))))
