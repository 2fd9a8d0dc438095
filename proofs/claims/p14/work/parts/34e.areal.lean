
abbrev rm_s_X11_areAlikeX : Room := { frames := 4, cells := 0, slots := 0, locals := 100 }
set_option maxRecDepth 100000 in
set_option maxHeartbeats 4000000 in
theorem s_X11_areAlikeX (l : Launch) (D : va_G) (G : Nat → Nat) (b0 : Nat) (τ : Nat → Nat) (f : hM) (t : TI G 9 τ f) (u0 : Nat) (hu0 : τ u0 = 60) (u1 : Int32) (hu1 : iv u1 (-2147483648) 2147483647) (u2 : Int32) (hu2 : iv u2 0 7) (bq : Nat) (hbq : τ bq = 63) (k_u0_6 : atp f u0 (fd 6 (.ref bq))) (tm : Nat) (htm : τ tm = 69) (k_u0_15 : atp f u0 (fd 15 (.ref tm))) (ot : Nat) (hot : τ ot = 78) (k_u0_16 : atp f u0 (fd 16 (.ref ot))) (rb : Nat → Int32) (hRbq : atp f bq (eqc (.inl (G 1, 81, .inl rb)))) (rt : Nat → Int32) (hRtm : atp f tm (eqc (.inl (G 1, 61, .inl rt)))) (ro : Nat → Int32) (hRot : atp f ot (eqc (.inl (G 1, 61, .inl ro)))) (hNG : NGs τ f u0) : mI l yX11_areAlike cX11_areAlike 4 (.boolean) rm_s_X11_areAlikeX D G b0 f [.ref u0, .int u1, .int u2] (fun r f1 => iv r 0 1 ∧ TI G 9 τ f1 ∧ Fr [60, 67, 78, 60013, 60014, 60015] τ f f1 ∧ (r.toInt ≠ 0 → (∀ n : Nat, n ≤ 20 → rt n = smf rb u2.toInt 0 n (gN rb u2.toInt 0 1 n))) ∧ (r.toInt = 0 → (¬ (∀ n : Nat, n ≤ 20 → rt n = smf rb u2.toInt 0 n (gN rb u2.toInt 0 1 n)))) ∧ NGs τ f1 u0) := by
  refine met2 (own := RX11) (by decide) rfl (Nat.le_of_ble_eq_true rfl) ?_
  intro p e s m args below meth c ls Q hQ C hr hini hl h
  have hl : lv_has ls 4 [(0, .ref u0), (1, .int u1), (2, .int u2)] := hl
  obtain ⟨hx, hb, hml, hown, hts, hE0, hlk⟩ := id C
  have o := Fr.rf [60, 67, 78, 60013, 60014, 60015] τ f
  have L15 : ∀ (n15 : Nat) (ls : Array Slot) (f_15 : hM) (H : Heap) (locs : List Loc) (v15_3 : Int32) (g15_ot_R : Nat → Int32), 21 - v15_3.toInt < (n15 : Int) → lv_has ls 4 [(0, .ref u0), (3, .int v15_3)] → hw D b0 s.heap f_15 H locs → TI G 9 τ f_15 → Fr [60, 67, 78, 60013, 60014, 60015] τ f f_15 → iv v15_3 0 21 → atp f_15 u0 (fd 6 (.ref bq)) → atp f_15 u0 (fd 15 (.ref tm)) → atp f_15 u0 (fd 16 (.ref ot)) → atp f_15 bq (eqc (.inl (G 1, 81, .inl rb))) → atp f_15 tm (eqc (.inl (G 1, 61, .inl rt))) → NGs τ f_15 u0 → atp f_15 ot (eqc (.inl (G 1, 61, .inl g15_ot_R))) → (∀ n : Nat, n ≤ 20 → g15_ot_R n = smf rb u2.toInt 0 n (gN rb u2.toInt 0 1 n)) → (∀ n : Nat, (n : Int) < v15_3.toInt → rt n = smf rb u2.toInt 0 n (gN rb u2.toInt 0 1 n)) → W p l e rm_s_X11_areAlikeX s m args below meth c H locs 0 0 Q (F0 m 15 ls []) := by
    intro n15
    induction n15 with
    | zero => intro ls f_15 H locs v15_3 g15_ot_R hm15 hl h t_15 o_15 iv15_3 k15_u0_6 k15_u0_15 k15_u0_16 k15_bq_R k15_tm_R k15_u0_NG k15_ot_R hv15_0 hv15_1; exact absurd hm15 (by omega)
    | succ n15 ih15 =>
      intro ls f_15 H locs v15_3 g15_ot_R hm15 hl h t_15 o_15 iv15_3 k15_u0_6 k15_u0_15 k15_u0_16 k15_bq_R k15_tm_R k15_u0_NG k15_ot_R hv15_0 hv15_1
      refine lv_iload_n hx hb dX11_areAlike_15 rfl (lv_at hl 1 rfl) ?_
      refine lv_bipush (v := 20) hx hb dX11_areAlike_16 (by decide) ?_
      refine lv_icmp_gt (tgt := 44) hx hb dX11_areAlike_18 (by decide) (fun c1 => ?_) (fun c1 => ?_)
      · have c2 : 20 < v15_3.toInt := Int32.lt_iff_toInt_lt.mp c1
        have i3 : iv v15_3 21 21 := iv_Lr c2 (iv_k (x := 20) (k := 20) rfl) iv15_3 (by decide)
        refine lv_iconst (v := 1) hx hb dX11_areAlike_44 (by decide) ?_
        exact u_zret C h hr hQ ⟨by decide, by decide⟩ (⟨⟨by decide, by decide⟩, t_15, o_15, (fun _ => (fun n hn => hv15_1 n (by omega))), (fun h_ => absurd h_ (by decide)), k15_u0_NG⟩) (Nat.le_of_ble_eq_true rfl) (Nat.le_of_ble_eq_true rfl) dX11_areAlike_45
      · have c4 : v15_3.toInt ≤ 20 := Int32.le_iff_toInt_le.mp (iv_nlt c1)
        have i5 : iv v15_3 0 20 := iv_El c4 iv15_3 (iv_k (x := 20) (k := 20) rfl) (by decide)
        refine lv_aload_n hx hb dX11_areAlike_21 rfl (lv_at hl 0 rfl) ?_
        refine t_getfd C h t_15 hu0 (by decide) wf_60 (v := .ref tm) k15_u0_15 fl_X11_36 dX11_areAlike_22 ?_
        refine lv_iload_n hx hb dX11_areAlike_25 rfl (lv_at hl 1 rfl) ?_
        refine e_iald C h t_15 htm (by decide) wf_69 k15_tm_R (iv_in i5 (by decide)) dX11_areAlike_26 (fun z6 ez6 iz6 => ?_)
        have mz6 := congrArg Int32.toInt ez6
        refine lv_aload_n hx hb dX11_areAlike_27 rfl (lv_at hl 0 rfl) ?_
        refine t_getfd C h t_15 hu0 (by decide) wf_60 (v := .ref ot) k15_u0_16 fl_X11_39 dX11_areAlike_28 ?_
        refine lv_iload_n hx hb dX11_areAlike_31 rfl (lv_at hl 1 rfl) ?_
        refine e_iald C h t_15 hot (by decide) wf_78 k15_ot_R (iv_in i5 (by decide)) dX11_areAlike_32 (fun z7 ez7 iz7 => ?_)
        have mz7 := congrArg Int32.toInt ez7
        refine lv_icmp_eq (tgt := 38) hx hb dX11_areAlike_33 (by decide) (fun c8 => ?_) (fun c8 => ?_)
        · have c9 : z6.toInt = z7.toInt := congrArg Int32.toInt c8
          refine i_inc hx hb dX11_areAlike_38 hl (k := 1) rfl i5 rfl (lo := 1) (hi := 21) (by decide) (by decide) (lv' := fun v => [(3, .int v), (0, .ref u0)]) (fun _ => rfl) (fun z11 ls ez11 mz11 iz11 hl => ?_)
          refine lv_goto (tgt := 15) hx hb dX11_areAlike_41 (by decide) ?_
          exact ih15 ls f_15 H locs z11 g15_ot_R (show 21 - z11.toInt < _ by omega) (lv_cons hl 1 rfl (lv_cons hl 0 rfl (lv_nil hl))) h t_15 o_15 (iv_w iz11 (by decide)) k15_u0_6 k15_u0_15 k15_u0_16 k15_bq_R k15_tm_R k15_u0_NG k15_ot_R (show ∀ n : Nat, n ≤ 20 → g15_ot_R n = smf rb u2.toInt 0 n (gN rb u2.toInt 0 1 n) from hv15_0) (show ∀ n : Nat, (n : Int) < z11.toInt → rt n = smf rb u2.toInt 0 n (gN rb u2.toInt 0 1 n) from (fun n hn => by
              by_cases q_ : (n : Int) < v15_3.toInt
              · exact hv15_1 n q_
              · have h_ := hv15_0 n (by omega)
                rw [← h_, show n = v15_3.toInt.toNat by omega, ← ez6, ← ez7]; exact Int32.toInt_inj.mp (by omega)))
        · have c10 : z6.toInt ≠ z7.toInt := fun z_ => c8 (Int32.toInt_inj.mp z_)
          refine lv_iconst (v := 0) hx hb dX11_areAlike_36 (by decide) ?_
          exact u_zret C h hr hQ ⟨by decide, by decide⟩ (⟨⟨by decide, by decide⟩, t_15, o_15, (fun h_ => absurd h_ (by decide)), (fun _ => (fun z_ => by have h1_ := z_ v15_3.toInt.toNat (by omega); have h2_ := hv15_0 v15_3.toInt.toNat (by omega); rw [← h2_, ← ez6, ← ez7] at h1_; exact absurd (congrArg Int32.toInt h1_) (by omega))), k15_u0_NG⟩) (Nat.le_of_ble_eq_true rfl) (Nat.le_of_ble_eq_true rfl) dX11_areAlike_37
  refine lv_aload_n hx hb dX11_areAlike_0 rfl (lv_at hl 0 rfl) ?_
  refine lv_iload_n hx hb dX11_areAlike_1 rfl (lv_at hl 2 rfl) ?_
  refine lv_iconst (v := 0) hx hb dX11_areAlike_2 (by decide) ?_
  refine lv_iconst (v := 0) hx hb dX11_areAlike_3 (by decide) ?_
  refine lv_bipush (v := 20) hx hb dX11_areAlike_4 (by decide) ?_
  refine lv_aload_n hx hb dX11_areAlike_6 rfl (lv_at hl 0 rfl) ?_
  refine t_getfd C h t hu0 (by decide) wf_60 (v := .ref ot) k_u0_16 fl_X11_39 dX11_areAlike_7 ?_
  obtain ⟨_, r12⟩ := t_rec t hu0 (by decide) wf_60
  refine k_v (r_V C h hl (As := [.int u2, .int 0, .int 0, .int 20, .ref ot]) (rest := []) (s_X11_laysTermsXo l D G b0 τ f t u0 hu0 u2 hu2 0 (iv_w (iv_k (x := 0) (k := 0) rfl) (by decide)) 0 (iv_w (iv_k (x := 0) (k := 0) rfl) (by decide)) 20 (iv_w (iv_k (x := 20) (k := 20) rfl) (by decide)) ot hot bq hbq k_u0_6 rb hRbq ro hRot hNG) r12 (Cn := RX11) (T := TX11) (N := 32) rfl rfl mk_X11_laysTerms w_1757 w_1759 w_64 w_1760 ⟨Nat.le_of_ble_eq_true rfl, Nat.le_of_ble_eq_true rfl⟩ rfl (Nat.le_of_ble_eq_true rfl) ⟨Nat.le_of_ble_eq_true rfl, Nat.le_of_ble_eq_true rfl⟩ rfl dX11_areAlike_10) h (fun f14 H locs p15 h => ?_)
  obtain ⟨tf14, ogf14, ⟨rt1_f14, kRu5f14, pRu5f14⟩, ngf14⟩ := p15
  have of14 : Fr [60, 67, 78, 60013, 60014, 60015] τ f f14 := Fr.tr o ogf14 (by decide) (by decide)
  have k16 := atp.fk k_u0_6 ogf14 hu0 (by decide) (by decide)
  have k17 := atp.fk k_u0_15 ogf14 hu0 (by decide) (by decide)
  have k18 := atp.fk k_u0_16 ogf14 hu0 (by decide) (by decide)
  have k19 := atp.fr hRbq ogf14 hbq (by decide)
  have k20 := atp.fr hRtm ogf14 htm (by decide)
  refine lv_iconst (v := 0) hx hb dX11_areAlike_13 (by decide) ?_
  refine lv_istore_n (lv' := [(3, .int 0), (0, .ref u0), (1, .int u1), (2, .int u2)]) hx hb dX11_areAlike_14 rfl hl (by decide) rfl (fun ls hl => ?_)
  exact L15 22 ls f14 H locs 0 rt1_f14 (by decide) (lv_cons hl 1 rfl (lv_cons hl 0 rfl (lv_nil hl))) h tf14 of14 ⟨by decide, by decide⟩ k16 k17 k18 k19 k20 ngf14 kRu5f14 (show ∀ n : Nat, n ≤ 20 → rt1_f14 n = smf rb u2.toInt 0 n (gN rb u2.toInt 0 1 n) from (fun n hn => pRu5f14 n (by have n_ : (20 : Int32).toInt = 20 := rfl; omega))) (show ∀ n : Nat, (n : Int) < 0 → rt n = smf rb u2.toInt 0 n (gN rb u2.toInt 0 1 n) from (fun n hn => absurd hn (by omega)))
