
abbrev rm_s_X11_laysTermsX : Room := { frames := 3, cells := 0, slots := 0, locals := 74 }
set_option maxRecDepth 100000 in
set_option maxHeartbeats 4000000 in
theorem s_X11_laysTermsX (l : Launch) (D : va_G) (G : Nat → Nat) (b0 : Nat) (τ : Nat → Nat) (f : hM) (t : TI G 9 τ f) (u0 : Nat) (hu0 : τ u0 = 60) (u1 : Int32) (hu1 : iv u1 0 7) (u2 : Int32) (hu2 : iv u2 (-2147483648) 2147483647) (u3 : Int32) (hu3 : iv u3 (-2147483648) 2147483647) (u4 : Int32) (hu4 : iv u4 0 60) (u5 : Nat) (hu5 : τ u5 = 69) (bq : Nat) (hbq : τ bq = 63) (k_u0_6 : atp f u0 (fd 6 (.ref bq))) (rb : Nat → Int32) (hRbq : atp f bq (eqc (.inl (G 1, 81, .inl rb)))) (rt : Nat → Int32) (hRu5 : atp f u5 (eqc (.inl (G 1, 61, .inl rt)))) (hNG : NGs τ f u0) : mV l yX11_laysTerms cX11_laysTerms 7 rm_s_X11_laysTermsX D G b0 f [.ref u0, .int u1, .int u2, .int u3, .int u4, .ref u5] (fun f1 => TI G 9 τ f1 ∧ Fr [60, 67, 69, 60013, 60014, 60015] τ f f1 ∧ (∃ rt1 : Nat → Int32, atp f1 u5 (eqc (.inl (G 1, 61, .inl rt1))) ∧ (∀ n : Nat, (n : Int) ≤ u4.toInt → rt1 n = smf rb u1.toInt u2.toInt n (gN rb u1.toInt u3.toInt 1 n))) ∧ NGs τ f1 u0) := by
  refine met2 (own := RX11) (by decide) rfl (Nat.le_of_ble_eq_true rfl) ?_
  intro p e s m args below meth c ls Q hQ C hr hini hl h
  have hl : lv_has ls 7 [(0, .ref u0), (1, .int u1), (2, .int u2), (3, .int u3), (4, .int u4), (5, .ref u5)] := hl
  obtain ⟨hx, hb, hml, hown, hts, hE0, hlk⟩ := id C
  have o := Fr.rf [60, 67, 69, 60013, 60014, 60015] τ f
  have L18 : ∀ (n18 : Nat) (ls : Array Slot) (f_18 : hM) (H : Heap) (locs : List Loc) (v18_6 : Int32) (g18_u0_14 : Int32) (g18_u5_R : Nat → Int32), 61 - v18_6.toInt < (n18 : Int) → lv_has ls 7 [(0, .ref u0), (1, .int u1), (2, .int u2), (3, .int u3), (4, .int u4), (5, .ref u5), (6, .int v18_6)] → hw D b0 s.heap f_18 H locs → TI G 9 τ f_18 → Fr [60, 67, 69, 60013, 60014, 60015] τ f f_18 → iv v18_6 1 61 → iv g18_u0_14 0 60 → atp f_18 u0 (fd 6 (.ref bq)) → atp f_18 bq (eqc (.inl (G 1, 81, .inl rb))) → atp f_18 u0 (fd 14 (.int g18_u0_14)) → atp f_18 u5 (eqc (.inl (G 1, 61, .inl g18_u5_R))) → g18_u0_14.toInt = v18_6.toInt - 1 → (GRp G τ f_18 u0 (gN rb u1.toInt u3.toInt 1 (Int.toNat (v18_6.toInt - 1)))) → (∀ n : Nat, (n : Int) < v18_6.toInt → g18_u5_R n = smf rb u1.toInt u2.toInt n (gN rb u1.toInt u3.toInt 1 n)) → W p l e rm_s_X11_laysTermsX s m args below meth c H locs 0 0 Q (F0 m 18 ls []) := by
    intro n18
    induction n18 with
    | zero => intro ls f_18 H locs v18_6 g18_u0_14 g18_u5_R hm18 hl h t_18 o_18 iv18_6 ig18_u0_14 k18_u0_6 k18_bq_R k18_u0_14 k18_u5_R hv18_0 hv18_1 hv18_2; exact absurd hm18 (by omega)
    | succ n18 ih18 =>
      intro ls f_18 H locs v18_6 g18_u0_14 g18_u5_R hm18 hl h t_18 o_18 iv18_6 ig18_u0_14 k18_u0_6 k18_bq_R k18_u0_14 k18_u5_R hv18_0 hv18_1 hv18_2
      refine lv_iload hx hb dX11_laysTerms_18 (lv_at hl 6 rfl) ?_
      refine lv_iload hx hb dX11_laysTerms_20 (lv_at hl 4 rfl) ?_
      refine lv_icmp_gt (tgt := 49) hx hb dX11_laysTerms_22 (by decide) (fun c1 => ?_) (fun c1 => ?_)
      · have c2 : u4.toInt < v18_6.toInt := Int32.lt_iff_toInt_lt.mp c1
        exact u_vret C h hr hQ (⟨t_18, o_18, ⟨g18_u5_R, k18_u5_R, (fun n hn => hv18_2 n (by omega))⟩, GRp.ng hv18_1⟩) (Nat.le_of_ble_eq_true rfl) (Nat.le_of_ble_eq_true rfl) dX11_laysTerms_49
      · have c3 : v18_6.toInt ≤ u4.toInt := Int32.le_iff_toInt_le.mp (iv_nlt c1)
        have i4 : iv v18_6 1 60 := iv_El c3 iv18_6 hu4 (by decide)
        have i5 : iv u4 1 60 := iv_Er c3 iv18_6 hu4 (by decide)
        refine lv_aload_n hx hb dX11_laysTerms_25 rfl (lv_at hl 0 rfl) ?_
        refine lv_iload_n hx hb dX11_laysTerms_26 rfl (lv_at hl 1 rfl) ?_
        refine lv_iload_n hx hb dX11_laysTerms_27 rfl (lv_at hl 3 rfl) ?_
        refine lv_iconst (v := 1) hx hb dX11_laysTerms_28 (by decide) ?_
        have i6 : iv g18_u0_14 0 59 := ⟨by omega, by omega⟩
        obtain ⟨_, r7⟩ := t_rec t_18 hu0 (by decide) wf_60
        refine k_v (r_V C h hl (As := [.int u1, .int u3, .int 1]) (rest := []) (s_X11_goesX l D G b0 τ f_18 t_18 u0 hu0 u1 hu1 u3 hu3 1 (iv_w (iv_k (x := 1) (k := 1) rfl) (by decide)) g18_u0_14 i6 k18_u0_14 bq hbq k18_u0_6 rb k18_bq_R (gN rb u1.toInt u3.toInt 1 (Int.toNat (v18_6.toInt - 1))) hv18_1) r7 (Cn := RX11) (T := TX11) (N := 32) rfl rfl mk_X11_goes w_1709 w_1711 w_59 w_1712 ⟨Nat.le_of_ble_eq_true rfl, Nat.le_of_ble_eq_true rfl⟩ rfl (Nat.le_of_ble_eq_true rfl) ⟨Nat.le_of_ble_eq_true rfl, Nat.le_of_ble_eq_true rfl⟩ rfl dX11_laysTerms_29) h (fun f9 H locs p10 h => ?_)
        have n11 : (1 : Int32).toInt = 1 := rfl
        obtain ⟨tf9, ogf9, x0r8, ⟨gg_f9, kpu0_14f9, ipu0_14f9, rpu0_14f9⟩⟩ := p10
        have of9 : Fr [60, 67, 69, 60013, 60014, 60015] τ f f9 := Fr.tr o_18 ogf9 (by decide) (by decide)
        have k12 := atp.fk k18_u0_6 ogf9 hu0 (by decide) (by decide)
        have k13 := atp.fr k18_bq_R ogf9 hbq (by decide)
        have k14 := atp.fr k18_u5_R ogf9 hu5 (by decide)
        have grf9 : GRp G τ f9 u0 (gN rb u1.toInt u3.toInt 1 v18_6.toInt.toNat) := by
          rw [show v18_6.toInt.toNat = Int.toNat (v18_6.toInt - 1) + 1 by omega, gN, show ((Int.toNat (v18_6.toInt - 1) : Nat) : Int) = g18_u0_14.toInt by omega]; exact x0r8
        refine lv_aload hx hb dX11_laysTerms_32 (lv_at hl 5 rfl) ?_
        refine lv_iload hx hb dX11_laysTerms_34 (lv_at hl 6 rfl) ?_
        refine lv_aload_n hx hb dX11_laysTerms_36 rfl (lv_at hl 0 rfl) ?_
        refine lv_iload_n hx hb dX11_laysTerms_37 rfl (lv_at hl 1 rfl) ?_
        refine lv_iload_n hx hb dX11_laysTerms_38 rfl (lv_at hl 2 rfl) ?_
        obtain ⟨_, r15⟩ := t_rec tf9 hu0 (by decide) wf_60
        refine k_i (r_V C h hl (As := [.int u1, .int u2]) (rest := [.int v18_6, .ref u5]) (s_X11_sumOfX l D G b0 τ f9 tf9 u0 hu0 u1 hu1 u2 hu2 gg_f9 (iv_w ipu0_14f9 (by decide)) kpu0_14f9 bq hbq k12 rb k13 (gN rb u1.toInt u3.toInt 1 v18_6.toInt.toNat) grf9) r15 (Cn := RX11) (T := TX11) (N := 32) rfl rfl mk_X11_sumOf w_1731 w_1733 w_61 w_1734 ⟨Nat.le_of_ble_eq_true rfl, Nat.le_of_ble_eq_true rfl⟩ rfl (Nat.le_of_ble_eq_true rfl) ⟨Nat.le_of_ble_eq_true rfl, Nat.le_of_ble_eq_true rfl⟩ rfl dX11_laysTerms_39) h (fun r16 f17 H locs p18 h => ?_)
        obtain ⟨ir16, tf17, ogf17, x0r16⟩ := p18
        have egf17 := Fr.nil2 ogf17
        subst egf17
        refine e_iast C h tf9 of9 hu5 (by decide) (by decide) wf_69 fw_69 k14 (iv_in i4 (by decide)) (iv_w ir16 (by decide)) dX11_laysTerms_42 (fun R21 f19 erR21 H locs h tf19 of19 hq hn_ k20 => ?_)
        have k22 := atp.tg k12 hq hu0 (by decide)
        have k23 := atp.tg k13 hq hbq (by decide)
        have k25 := atp.tg kpu0_14f9 hq hu0 (by decide)
        have gr26 := GRp.tg grf9 hq hu0 (by decide)
        refine i_inc hx hb dX11_laysTerms_43 hl (k := 6) rfl i4 rfl (lo := 2) (hi := 61) (by decide) (by decide) (lv' := fun v => [(6, .int v), (0, .ref u0), (1, .int u1), (2, .int u2), (3, .int u3), (4, .int u4), (5, .ref u5)]) (fun _ => rfl) (fun z27 ls ez27 mz27 iz27 hl => ?_)
        refine lv_goto (tgt := 18) hx hb dX11_laysTerms_46 (by decide) ?_
        exact ih18 ls f19 H locs z27 gg_f9 R21 (show 61 - z27.toInt < _ by omega) (lv_cons hl 1 rfl (lv_cons hl 2 rfl (lv_cons hl 3 rfl (lv_cons hl 4 rfl (lv_cons hl 5 rfl (lv_cons hl 6 rfl (lv_cons hl 0 rfl (lv_nil hl)))))))) h tf19 of19 (iv_w iz27 (by decide)) (iv_w ipu0_14f9 (by decide)) k22 k23 k25 k20 (show gg_f9.toInt = z27.toInt - 1 by omega) (show GRp G τ f19 u0 (gN rb u1.toInt u3.toInt 1 (Int.toNat (z27.toInt - 1))) from (by rw [show Int.toNat ((z27.toInt) - 1) = v18_6.toInt.toNat by omega]; exact gr26)) (show ∀ n : Nat, (n : Int) < z27.toInt → R21 n = smf rb u1.toInt u2.toInt n (gN rb u1.toInt u3.toInt 1 n) from (fun n hn => by
            rw [erR21]; by_cases q_ : n = v18_6.toInt.toNat
            · rw [upd_at q_, x0r16, q_]; exact congrArg (fun z_ => smf rb u1.toInt u2.toInt z_ _) (by omega)
            · rw [upd_off q_]; exact hv18_2 n (by omega)))
  refine lv_aload_n hx hb dX11_laysTerms_0 rfl (lv_at hl 0 rfl) ?_
  refine lv_iload_n hx hb dX11_laysTerms_1 rfl (lv_at hl 1 rfl) ?_
  obtain ⟨_, r28⟩ := t_rec t hu0 (by decide) wf_60
  refine k_v (r_V C h hl (As := [.int u1]) (rest := []) (s_X11_beginsX l D G b0 τ f t u0 hu0 u1 hu1 bq hbq k_u0_6 rb hRbq hNG) r28 (Cn := RX11) (T := TX11) (N := 32) rfl rfl mk_X11_begins w_1702 w_1704 w_58 w_1705 ⟨Nat.le_of_ble_eq_true rfl, Nat.le_of_ble_eq_true rfl⟩ rfl (Nat.le_of_ble_eq_true rfl) ⟨Nat.le_of_ble_eq_true rfl, Nat.le_of_ble_eq_true rfl⟩ rfl dX11_laysTerms_2) h (fun f30 H locs p31 h => ?_)
  obtain ⟨tf30, ogf30, x0r29, ⟨gg_f30, kpu0_14f30, ipu0_14f30, rpu0_14f30⟩, ngf30⟩ := p31
  have of30 : Fr [60, 67, 69, 60013, 60014, 60015] τ f f30 := Fr.tr o ogf30 (by decide) (by decide)
  have k32 := atp.fk k_u0_6 ogf30 hu0 (by decide) (by decide)
  have k33 := atp.fr hRbq ogf30 hbq (by decide)
  have k34 := atp.fr hRu5 ogf30 hu5 (by decide)
  have k35 := NGs.fr hNG ogf30 hu0 (by decide)
  refine lv_aload hx hb dX11_laysTerms_5 (lv_at hl 5 rfl) ?_
  refine lv_iconst (v := 0) hx hb dX11_laysTerms_7 (by decide) ?_
  refine lv_aload_n hx hb dX11_laysTerms_8 rfl (lv_at hl 0 rfl) ?_
  refine lv_iload_n hx hb dX11_laysTerms_9 rfl (lv_at hl 1 rfl) ?_
  refine lv_iload_n hx hb dX11_laysTerms_10 rfl (lv_at hl 2 rfl) ?_
  obtain ⟨_, r36⟩ := t_rec tf30 hu0 (by decide) wf_60
  refine k_i (r_V C h hl (As := [.int u1, .int u2]) (rest := [.int 0, .ref u5]) (s_X11_sumOfX l D G b0 τ f30 tf30 u0 hu0 u1 hu1 u2 hu2 gg_f30 (iv_w ipu0_14f30 (by decide)) kpu0_14f30 bq hbq k32 rb k33 (bgn rb u1.toInt) x0r29) r36 (Cn := RX11) (T := TX11) (N := 32) rfl rfl mk_X11_sumOf w_1731 w_1733 w_61 w_1734 ⟨Nat.le_of_ble_eq_true rfl, Nat.le_of_ble_eq_true rfl⟩ rfl (Nat.le_of_ble_eq_true rfl) ⟨Nat.le_of_ble_eq_true rfl, Nat.le_of_ble_eq_true rfl⟩ rfl dX11_laysTerms_11) h (fun r37 f38 H locs p39 h => ?_)
  obtain ⟨ir37, tf38, ogf38, x0r37⟩ := p39
  have egf38 := Fr.nil2 ogf38
  subst egf38
  refine e_iast C h tf30 of30 hu5 (by decide) (by decide) wf_69 fw_69 k34 (by unfold vp_in; decide) (iv_w ir37 (by decide)) dX11_laysTerms_14 (fun R42 f40 erR42 H locs h tf40 of40 hq hn_ k41 => ?_)
  have erR42 : R42 = upd rt 0 r37 := erR42
  have k43 := atp.tg k32 hq hu0 (by decide)
  have k44 := atp.tg k33 hq hbq (by decide)
  have k46 := NGs.tg ngf30 hq hu0 (by decide)
  have k47 := atp.tg kpu0_14f30 hq hu0 (by decide)
  have gr48 := GRp.tg x0r29 hq hu0 (by decide)
  refine lv_iconst (v := 1) hx hb dX11_laysTerms_15 (by decide) ?_
  refine lv_istore (lv' := [(6, .int 1), (0, .ref u0), (1, .int u1), (2, .int u2), (3, .int u3), (4, .int u4), (5, .ref u5)]) hx hb dX11_laysTerms_16 hl (by decide) rfl (fun ls hl => ?_)
  exact L18 61 ls f40 H locs 1 gg_f30 R42 (by decide) (lv_cons hl 1 rfl (lv_cons hl 2 rfl (lv_cons hl 3 rfl (lv_cons hl 4 rfl (lv_cons hl 5 rfl (lv_cons hl 6 rfl (lv_cons hl 0 rfl (lv_nil hl)))))))) h tf40 of40 ⟨by decide, by decide⟩ (iv_w ipu0_14f30 (by decide)) k43 k44 k47 k41 (show gg_f30.toInt = 1 - 1 by omega) (show GRp G τ f40 u0 (gN rb u1.toInt u3.toInt 1 (Int.toNat (1 - 1))) from (by rw [show Int.toNat ((1) - 1) = 0 by omega]; exact gr48)) (show ∀ n : Nat, (n : Int) < 1 → R42 n = smf rb u1.toInt u2.toInt n (gN rb u1.toInt u3.toInt 1 n) from (fun n hn => by
      rw [show n = 0 by omega, erR42, upd_at rfl, x0r37, show gg_f30.toInt = ((0 : Nat) : Int) by omega, gN]))
abbrev rm_s_X11_laysTermsXo : Room := { frames := 3, cells := 0, slots := 0, locals := 74 }
set_option maxRecDepth 100000 in
set_option maxHeartbeats 4000000 in
theorem s_X11_laysTermsXo (l : Launch) (D : va_G) (G : Nat → Nat) (b0 : Nat) (τ : Nat → Nat) (f : hM) (t : TI G 9 τ f) (u0 : Nat) (hu0 : τ u0 = 60) (u1 : Int32) (hu1 : iv u1 0 7) (u2 : Int32) (hu2 : iv u2 (-2147483648) 2147483647) (u3 : Int32) (hu3 : iv u3 (-2147483648) 2147483647) (u4 : Int32) (hu4 : iv u4 0 60) (u5 : Nat) (hu5 : τ u5 = 78) (bq : Nat) (hbq : τ bq = 63) (k_u0_6 : atp f u0 (fd 6 (.ref bq))) (rb : Nat → Int32) (hRbq : atp f bq (eqc (.inl (G 1, 81, .inl rb)))) (rt : Nat → Int32) (hRu5 : atp f u5 (eqc (.inl (G 1, 61, .inl rt)))) (hNG : NGs τ f u0) : mV l yX11_laysTerms cX11_laysTerms 7 rm_s_X11_laysTermsXo D G b0 f [.ref u0, .int u1, .int u2, .int u3, .int u4, .ref u5] (fun f1 => TI G 9 τ f1 ∧ Fr [60, 67, 78, 60013, 60014, 60015] τ f f1 ∧ (∃ rt1 : Nat → Int32, atp f1 u5 (eqc (.inl (G 1, 61, .inl rt1))) ∧ (∀ n : Nat, (n : Int) ≤ u4.toInt → rt1 n = smf rb u1.toInt u2.toInt n (gN rb u1.toInt u3.toInt 1 n))) ∧ NGs τ f1 u0) := by
  refine met2 (own := RX11) (by decide) rfl (Nat.le_of_ble_eq_true rfl) ?_
  intro p e s m args below meth c ls Q hQ C hr hini hl h
  have hl : lv_has ls 7 [(0, .ref u0), (1, .int u1), (2, .int u2), (3, .int u3), (4, .int u4), (5, .ref u5)] := hl
  obtain ⟨hx, hb, hml, hown, hts, hE0, hlk⟩ := id C
  have o := Fr.rf [60, 67, 78, 60013, 60014, 60015] τ f
  have L18 : ∀ (n18 : Nat) (ls : Array Slot) (f_18 : hM) (H : Heap) (locs : List Loc) (v18_6 : Int32) (g18_u0_14 : Int32) (g18_u5_R : Nat → Int32), 61 - v18_6.toInt < (n18 : Int) → lv_has ls 7 [(0, .ref u0), (1, .int u1), (2, .int u2), (3, .int u3), (4, .int u4), (5, .ref u5), (6, .int v18_6)] → hw D b0 s.heap f_18 H locs → TI G 9 τ f_18 → Fr [60, 67, 78, 60013, 60014, 60015] τ f f_18 → iv v18_6 1 61 → iv g18_u0_14 0 60 → atp f_18 u0 (fd 6 (.ref bq)) → atp f_18 bq (eqc (.inl (G 1, 81, .inl rb))) → atp f_18 u0 (fd 14 (.int g18_u0_14)) → atp f_18 u5 (eqc (.inl (G 1, 61, .inl g18_u5_R))) → g18_u0_14.toInt = v18_6.toInt - 1 → (GRp G τ f_18 u0 (gN rb u1.toInt u3.toInt 1 (Int.toNat (v18_6.toInt - 1)))) → (∀ n : Nat, (n : Int) < v18_6.toInt → g18_u5_R n = smf rb u1.toInt u2.toInt n (gN rb u1.toInt u3.toInt 1 n)) → W p l e rm_s_X11_laysTermsXo s m args below meth c H locs 0 0 Q (F0 m 18 ls []) := by
    intro n18
    induction n18 with
    | zero => intro ls f_18 H locs v18_6 g18_u0_14 g18_u5_R hm18 hl h t_18 o_18 iv18_6 ig18_u0_14 k18_u0_6 k18_bq_R k18_u0_14 k18_u5_R hv18_0 hv18_1 hv18_2; exact absurd hm18 (by omega)
    | succ n18 ih18 =>
      intro ls f_18 H locs v18_6 g18_u0_14 g18_u5_R hm18 hl h t_18 o_18 iv18_6 ig18_u0_14 k18_u0_6 k18_bq_R k18_u0_14 k18_u5_R hv18_0 hv18_1 hv18_2
      refine lv_iload hx hb dX11_laysTerms_18 (lv_at hl 6 rfl) ?_
      refine lv_iload hx hb dX11_laysTerms_20 (lv_at hl 4 rfl) ?_
      refine lv_icmp_gt (tgt := 49) hx hb dX11_laysTerms_22 (by decide) (fun c1 => ?_) (fun c1 => ?_)
      · have c2 : u4.toInt < v18_6.toInt := Int32.lt_iff_toInt_lt.mp c1
        exact u_vret C h hr hQ (⟨t_18, o_18, ⟨g18_u5_R, k18_u5_R, (fun n hn => hv18_2 n (by omega))⟩, GRp.ng hv18_1⟩) (Nat.le_of_ble_eq_true rfl) (Nat.le_of_ble_eq_true rfl) dX11_laysTerms_49
      · have c3 : v18_6.toInt ≤ u4.toInt := Int32.le_iff_toInt_le.mp (iv_nlt c1)
        have i4 : iv v18_6 1 60 := iv_El c3 iv18_6 hu4 (by decide)
        have i5 : iv u4 1 60 := iv_Er c3 iv18_6 hu4 (by decide)
        refine lv_aload_n hx hb dX11_laysTerms_25 rfl (lv_at hl 0 rfl) ?_
        refine lv_iload_n hx hb dX11_laysTerms_26 rfl (lv_at hl 1 rfl) ?_
        refine lv_iload_n hx hb dX11_laysTerms_27 rfl (lv_at hl 3 rfl) ?_
        refine lv_iconst (v := 1) hx hb dX11_laysTerms_28 (by decide) ?_
        have i6 : iv g18_u0_14 0 59 := ⟨by omega, by omega⟩
        obtain ⟨_, r7⟩ := t_rec t_18 hu0 (by decide) wf_60
        refine k_v (r_V C h hl (As := [.int u1, .int u3, .int 1]) (rest := []) (s_X11_goesX l D G b0 τ f_18 t_18 u0 hu0 u1 hu1 u3 hu3 1 (iv_w (iv_k (x := 1) (k := 1) rfl) (by decide)) g18_u0_14 i6 k18_u0_14 bq hbq k18_u0_6 rb k18_bq_R (gN rb u1.toInt u3.toInt 1 (Int.toNat (v18_6.toInt - 1))) hv18_1) r7 (Cn := RX11) (T := TX11) (N := 32) rfl rfl mk_X11_goes w_1709 w_1711 w_59 w_1712 ⟨Nat.le_of_ble_eq_true rfl, Nat.le_of_ble_eq_true rfl⟩ rfl (Nat.le_of_ble_eq_true rfl) ⟨Nat.le_of_ble_eq_true rfl, Nat.le_of_ble_eq_true rfl⟩ rfl dX11_laysTerms_29) h (fun f9 H locs p10 h => ?_)
        have n11 : (1 : Int32).toInt = 1 := rfl
        obtain ⟨tf9, ogf9, x0r8, ⟨gg_f9, kpu0_14f9, ipu0_14f9, rpu0_14f9⟩⟩ := p10
        have of9 : Fr [60, 67, 78, 60013, 60014, 60015] τ f f9 := Fr.tr o_18 ogf9 (by decide) (by decide)
        have k12 := atp.fk k18_u0_6 ogf9 hu0 (by decide) (by decide)
        have k13 := atp.fr k18_bq_R ogf9 hbq (by decide)
        have k14 := atp.fr k18_u5_R ogf9 hu5 (by decide)
        have grf9 : GRp G τ f9 u0 (gN rb u1.toInt u3.toInt 1 v18_6.toInt.toNat) := by
          rw [show v18_6.toInt.toNat = Int.toNat (v18_6.toInt - 1) + 1 by omega, gN, show ((Int.toNat (v18_6.toInt - 1) : Nat) : Int) = g18_u0_14.toInt by omega]; exact x0r8
        refine lv_aload hx hb dX11_laysTerms_32 (lv_at hl 5 rfl) ?_
        refine lv_iload hx hb dX11_laysTerms_34 (lv_at hl 6 rfl) ?_
        refine lv_aload_n hx hb dX11_laysTerms_36 rfl (lv_at hl 0 rfl) ?_
        refine lv_iload_n hx hb dX11_laysTerms_37 rfl (lv_at hl 1 rfl) ?_
        refine lv_iload_n hx hb dX11_laysTerms_38 rfl (lv_at hl 2 rfl) ?_
        obtain ⟨_, r15⟩ := t_rec tf9 hu0 (by decide) wf_60
        refine k_i (r_V C h hl (As := [.int u1, .int u2]) (rest := [.int v18_6, .ref u5]) (s_X11_sumOfX l D G b0 τ f9 tf9 u0 hu0 u1 hu1 u2 hu2 gg_f9 (iv_w ipu0_14f9 (by decide)) kpu0_14f9 bq hbq k12 rb k13 (gN rb u1.toInt u3.toInt 1 v18_6.toInt.toNat) grf9) r15 (Cn := RX11) (T := TX11) (N := 32) rfl rfl mk_X11_sumOf w_1731 w_1733 w_61 w_1734 ⟨Nat.le_of_ble_eq_true rfl, Nat.le_of_ble_eq_true rfl⟩ rfl (Nat.le_of_ble_eq_true rfl) ⟨Nat.le_of_ble_eq_true rfl, Nat.le_of_ble_eq_true rfl⟩ rfl dX11_laysTerms_39) h (fun r16 f17 H locs p18 h => ?_)
        obtain ⟨ir16, tf17, ogf17, x0r16⟩ := p18
        have egf17 := Fr.nil2 ogf17
        subst egf17
        refine e_iast C h tf9 of9 hu5 (by decide) (by decide) wf_78 fw_78 k14 (iv_in i4 (by decide)) (iv_w ir16 (by decide)) dX11_laysTerms_42 (fun R21 f19 erR21 H locs h tf19 of19 hq hn_ k20 => ?_)
        have k22 := atp.tg k12 hq hu0 (by decide)
        have k23 := atp.tg k13 hq hbq (by decide)
        have k25 := atp.tg kpu0_14f9 hq hu0 (by decide)
        have gr26 := GRp.tg grf9 hq hu0 (by decide)
        refine i_inc hx hb dX11_laysTerms_43 hl (k := 6) rfl i4 rfl (lo := 2) (hi := 61) (by decide) (by decide) (lv' := fun v => [(6, .int v), (0, .ref u0), (1, .int u1), (2, .int u2), (3, .int u3), (4, .int u4), (5, .ref u5)]) (fun _ => rfl) (fun z27 ls ez27 mz27 iz27 hl => ?_)
        refine lv_goto (tgt := 18) hx hb dX11_laysTerms_46 (by decide) ?_
        exact ih18 ls f19 H locs z27 gg_f9 R21 (show 61 - z27.toInt < _ by omega) (lv_cons hl 1 rfl (lv_cons hl 2 rfl (lv_cons hl 3 rfl (lv_cons hl 4 rfl (lv_cons hl 5 rfl (lv_cons hl 6 rfl (lv_cons hl 0 rfl (lv_nil hl)))))))) h tf19 of19 (iv_w iz27 (by decide)) (iv_w ipu0_14f9 (by decide)) k22 k23 k25 k20 (show gg_f9.toInt = z27.toInt - 1 by omega) (show GRp G τ f19 u0 (gN rb u1.toInt u3.toInt 1 (Int.toNat (z27.toInt - 1))) from (by rw [show Int.toNat ((z27.toInt) - 1) = v18_6.toInt.toNat by omega]; exact gr26)) (show ∀ n : Nat, (n : Int) < z27.toInt → R21 n = smf rb u1.toInt u2.toInt n (gN rb u1.toInt u3.toInt 1 n) from (fun n hn => by
            rw [erR21]; by_cases q_ : n = v18_6.toInt.toNat
            · rw [upd_at q_, x0r16, q_]; exact congrArg (fun z_ => smf rb u1.toInt u2.toInt z_ _) (by omega)
            · rw [upd_off q_]; exact hv18_2 n (by omega)))
  refine lv_aload_n hx hb dX11_laysTerms_0 rfl (lv_at hl 0 rfl) ?_
  refine lv_iload_n hx hb dX11_laysTerms_1 rfl (lv_at hl 1 rfl) ?_
  obtain ⟨_, r28⟩ := t_rec t hu0 (by decide) wf_60
  refine k_v (r_V C h hl (As := [.int u1]) (rest := []) (s_X11_beginsX l D G b0 τ f t u0 hu0 u1 hu1 bq hbq k_u0_6 rb hRbq hNG) r28 (Cn := RX11) (T := TX11) (N := 32) rfl rfl mk_X11_begins w_1702 w_1704 w_58 w_1705 ⟨Nat.le_of_ble_eq_true rfl, Nat.le_of_ble_eq_true rfl⟩ rfl (Nat.le_of_ble_eq_true rfl) ⟨Nat.le_of_ble_eq_true rfl, Nat.le_of_ble_eq_true rfl⟩ rfl dX11_laysTerms_2) h (fun f30 H locs p31 h => ?_)
  obtain ⟨tf30, ogf30, x0r29, ⟨gg_f30, kpu0_14f30, ipu0_14f30, rpu0_14f30⟩, ngf30⟩ := p31
  have of30 : Fr [60, 67, 78, 60013, 60014, 60015] τ f f30 := Fr.tr o ogf30 (by decide) (by decide)
  have k32 := atp.fk k_u0_6 ogf30 hu0 (by decide) (by decide)
  have k33 := atp.fr hRbq ogf30 hbq (by decide)
  have k34 := atp.fr hRu5 ogf30 hu5 (by decide)
  have k35 := NGs.fr hNG ogf30 hu0 (by decide)
  refine lv_aload hx hb dX11_laysTerms_5 (lv_at hl 5 rfl) ?_
  refine lv_iconst (v := 0) hx hb dX11_laysTerms_7 (by decide) ?_
  refine lv_aload_n hx hb dX11_laysTerms_8 rfl (lv_at hl 0 rfl) ?_
  refine lv_iload_n hx hb dX11_laysTerms_9 rfl (lv_at hl 1 rfl) ?_
  refine lv_iload_n hx hb dX11_laysTerms_10 rfl (lv_at hl 2 rfl) ?_
  obtain ⟨_, r36⟩ := t_rec tf30 hu0 (by decide) wf_60
  refine k_i (r_V C h hl (As := [.int u1, .int u2]) (rest := [.int 0, .ref u5]) (s_X11_sumOfX l D G b0 τ f30 tf30 u0 hu0 u1 hu1 u2 hu2 gg_f30 (iv_w ipu0_14f30 (by decide)) kpu0_14f30 bq hbq k32 rb k33 (bgn rb u1.toInt) x0r29) r36 (Cn := RX11) (T := TX11) (N := 32) rfl rfl mk_X11_sumOf w_1731 w_1733 w_61 w_1734 ⟨Nat.le_of_ble_eq_true rfl, Nat.le_of_ble_eq_true rfl⟩ rfl (Nat.le_of_ble_eq_true rfl) ⟨Nat.le_of_ble_eq_true rfl, Nat.le_of_ble_eq_true rfl⟩ rfl dX11_laysTerms_11) h (fun r37 f38 H locs p39 h => ?_)
  obtain ⟨ir37, tf38, ogf38, x0r37⟩ := p39
  have egf38 := Fr.nil2 ogf38
  subst egf38
  refine e_iast C h tf30 of30 hu5 (by decide) (by decide) wf_78 fw_78 k34 (by unfold vp_in; decide) (iv_w ir37 (by decide)) dX11_laysTerms_14 (fun R42 f40 erR42 H locs h tf40 of40 hq hn_ k41 => ?_)
  have erR42 : R42 = upd rt 0 r37 := erR42
  have k43 := atp.tg k32 hq hu0 (by decide)
  have k44 := atp.tg k33 hq hbq (by decide)
  have k46 := NGs.tg ngf30 hq hu0 (by decide)
  have k47 := atp.tg kpu0_14f30 hq hu0 (by decide)
  have gr48 := GRp.tg x0r29 hq hu0 (by decide)
  refine lv_iconst (v := 1) hx hb dX11_laysTerms_15 (by decide) ?_
  refine lv_istore (lv' := [(6, .int 1), (0, .ref u0), (1, .int u1), (2, .int u2), (3, .int u3), (4, .int u4), (5, .ref u5)]) hx hb dX11_laysTerms_16 hl (by decide) rfl (fun ls hl => ?_)
  exact L18 61 ls f40 H locs 1 gg_f30 R42 (by decide) (lv_cons hl 1 rfl (lv_cons hl 2 rfl (lv_cons hl 3 rfl (lv_cons hl 4 rfl (lv_cons hl 5 rfl (lv_cons hl 6 rfl (lv_cons hl 0 rfl (lv_nil hl)))))))) h tf40 of40 ⟨by decide, by decide⟩ (iv_w ipu0_14f30 (by decide)) k43 k44 k47 k41 (show gg_f30.toInt = 1 - 1 by omega) (show GRp G τ f40 u0 (gN rb u1.toInt u3.toInt 1 (Int.toNat (1 - 1))) from (by rw [show Int.toNat ((1) - 1) = 0 by omega]; exact gr48)) (show ∀ n : Nat, (n : Int) < 1 → R42 n = smf rb u1.toInt u2.toInt n (gN rb u1.toInt u3.toInt 1 n) from (fun n hn => by
      rw [show n = 0 by omega, erR42, upd_at rfl, x0r37, show gg_f30.toInt = ((0 : Nat) : Int) by omega, gN]))
