
abbrev rm_s_X11_goesX : Room := { frames := 1, cells := 0, slots := 0, locals := 25 }
set_option maxRecDepth 100000 in
set_option maxHeartbeats 4000000 in
theorem s_X11_goesX (l : Launch) (D : va_G) (G : Nat → Nat) (b0 : Nat) (τ : Nat → Nat) (f : hM) (t : TI G 9 τ f) (u0 : Nat) (hu0 : τ u0 = 60) (u1 : Int32) (hu1 : iv u1 0 7) (u2 : Int32) (hu2 : iv u2 (-2147483648) 2147483647) (u3 : Int32) (hu3 : iv u3 (-2147483648) 2147483647) (gn : Int32) (hgn : iv gn 0 59) (k_u0_14 : atp f u0 (fd 14 (.int gn))) (bq : Nat) (hbq : τ bq = 63) (k_u0_6 : atp f u0 (fd 6 (.ref bq))) (rb : Nat → Int32) (hRbq : atp f bq (eqc (.inl (G 1, 81, .inl rb)))) (gf : Nat → Int64) (hGR : GRp G τ f u0 gf)  : mV l yX11_goes cX11_goes 14 rm_s_X11_goesX D G b0 f [.ref u0, .int u1, .int u2, .int u3] (fun f1 => TI G 9 τ f1 ∧ Fr [60, 67, 60013, 60014, 60015] τ f f1 ∧ (GRp G τ f1 u0 (gof rb u1.toInt u2.toInt u3.toInt gn.toInt gf (fun _ => 0))) ∧ (∃ gg : Int32, atp f1 u0 (fd 14 (.int gg)) ∧ iv gg 1 60 ∧ gg.toInt = gn.toInt + 1)) := by
  refine met2 (own := RX11) (by decide) rfl (Nat.le_of_ble_eq_true rfl) ?_
  intro p e s m args below meth c ls Q hQ C hr hini hl h
  have hl : lv_has ls 14 [(0, .ref u0), (1, .int u1), (2, .int u2), (3, .int u3)] := hl
  obtain ⟨hx, hb, hml, hown, hts, hE0, hlk⟩ := id C
  have o := Fr.rf [60, 67, 60013, 60014, 60015] τ f
  obtain ⟨ga, gb, rg, rh, hab, ⟨hga, hgb⟩, k_u0_12, k_u0_13, hRga, hRgb, hag⟩ := hGR
  have L3 : ∀ (n3 : Nat) (ls : Array Slot) (f_3 : hM) (H : Heap) (locs : List Loc) (v3_4 : Int32) (g3_gb_R : Nat → Int64), 19600 - v3_4.toInt < (n3 : Int) → lv_has ls 14 [(0, .ref u0), (1, .int u1), (2, .int u2), (3, .int u3), (4, .int v3_4)] → hw D b0 s.heap f_3 H locs → TI G 9 τ f_3 → Fr [60, 67, 60013, 60014, 60015] τ f f_3 → iv v3_4 0 19600 → atp f_3 u0 (fd 14 (.int gn)) → atp f_3 u0 (fd 6 (.ref bq)) → atp f_3 bq (eqc (.inl (G 1, 81, .inl rb))) → atp f_3 u0 (fd 12 (.ref ga)) → atp f_3 u0 (fd 13 (.ref gb)) → atp f_3 ga (lrw G 19600 rg) → atp f_3 gb (lrw G 19600 g3_gb_R) → (∀ k : Nat, g3_gb_R k = if (k : Int) < v3_4.toInt then 0 else rh k) → W p l e rm_s_X11_goesX s m args below meth c H locs 0 0 Q (F0 m 3 ls []) := by
    intro n3
    induction n3 with
    | zero => intro ls f_3 H locs v3_4 g3_gb_R hm3 hl h t_3 o_3 iv3_4 k3_u0_14 k3_u0_6 k3_bq_R k3_u0_12 k3_u0_13 k3_ga_R k3_gb_R hv3_0; exact absurd hm3 (by omega)
    | succ n3 ih3 =>
      intro ls f_3 H locs v3_4 g3_gb_R hm3 hl h t_3 o_3 iv3_4 k3_u0_14 k3_u0_6 k3_bq_R k3_u0_12 k3_u0_13 k3_ga_R k3_gb_R hv3_0
      have L52 : ∀ (n52 : Nat) (ls : Array Slot) (f_52 : hM) (H : Heap) (locs : List Loc) (v52_4 : Int32) (v52_5 : Int32) (v52_6 : Int32) (g52_gb_R : Nat → Int64), 69 - v52_6.toInt < (n52 : Int) → lv_has ls 14 [(0, .ref u0), (1, .int u1), (2, .int u2), (3, .int u3), (4, .int v52_4), (5, .int v52_5), (6, .int v52_6)] → hw D b0 s.heap f_52 H locs → TI G 9 τ f_52 → Fr [60, 67, 60013, 60014, 60015] τ f f_52 → iv v52_4 0 9 → iv v52_5 0 9 → iv v52_6 (-59) 69 → atp f_52 u0 (fd 14 (.int gn)) → atp f_52 u0 (fd 6 (.ref bq)) → atp f_52 bq (eqc (.inl (G 1, 81, .inl rb))) → atp f_52 u0 (fd 12 (.ref ga)) → atp f_52 u0 (fd 13 (.ref gb)) → atp f_52 ga (lrw G 19600 rg) → atp f_52 gb (lrw G 19600 g52_gb_R) → v52_4.toInt = (rb (10 * u1.toInt + 8).toNat).toInt ∧ v52_5.toInt = (rb (10 * u1.toInt + 9).toNat).toInt → ((rb (10 * u1.toInt + 8).toNat).toInt - gn.toInt) ≤ v52_6.toInt → v52_6.toInt ≤ (rb (10 * u1.toInt + 8).toNat).toInt + gn.toInt + 1 → (agr g52_gb_R (gX rb u1.toInt u2.toInt u3.toInt rg ((rb (10 * u1.toInt + 8).toNat).toInt - gn.toInt) ((rb (10 * u1.toInt + 9).toNat).toInt - gn.toInt) (2 * gn.toInt + 1).toNat (v52_6.toInt - ((rb (10 * u1.toInt + 8).toNat).toInt - gn.toInt)).toNat (fun _ => 0))) → W p l e rm_s_X11_goesX s m args below meth c H locs 0 0 Q (F0 m 52 ls []) := by
        intro n52
        induction n52 with
        | zero => intro ls f_52 H locs v52_4 v52_5 v52_6 g52_gb_R hm52 hl h t_52 o_52 iv52_4 iv52_5 iv52_6 k52_u0_14 k52_u0_6 k52_bq_R k52_u0_12 k52_u0_13 k52_ga_R k52_gb_R hv52_0 hv52_1 hv52_2 hv52_3; exact absurd hm52 (by omega)
        | succ n52 ih52 =>
          intro ls f_52 H locs v52_4 v52_5 v52_6 g52_gb_R hm52 hl h t_52 o_52 iv52_4 iv52_5 iv52_6 k52_u0_14 k52_u0_6 k52_bq_R k52_u0_12 k52_u0_13 k52_ga_R k52_gb_R hv52_0 hv52_1 hv52_2 hv52_3
          have L73 : ∀ (n73 : Nat) (ls : Array Slot) (f_73 : hM) (H : Heap) (locs : List Loc) (v73_7 : Int32) (g73_gb_R : Nat → Int64), 69 - v73_7.toInt < (n73 : Int) → lv_has ls 14 [(0, .ref u0), (1, .int u1), (2, .int u2), (3, .int u3), (4, .int v52_4), (5, .int v52_5), (6, .int v52_6), (7, .int v73_7)] → hw D b0 s.heap f_73 H locs → TI G 9 τ f_73 → Fr [60, 67, 60013, 60014, 60015] τ f f_73 → iv v52_6 (-59) 68 → iv v73_7 (-59) 69 → atp f_73 u0 (fd 14 (.int gn)) → atp f_73 u0 (fd 6 (.ref bq)) → atp f_73 bq (eqc (.inl (G 1, 81, .inl rb))) → atp f_73 u0 (fd 12 (.ref ga)) → atp f_73 u0 (fd 13 (.ref gb)) → atp f_73 ga (lrw G 19600 rg) → atp f_73 gb (lrw G 19600 g73_gb_R) → v52_4.toInt = (rb (10 * u1.toInt + 8).toNat).toInt ∧ v52_5.toInt = (rb (10 * u1.toInt + 9).toNat).toInt → ((rb (10 * u1.toInt + 9).toNat).toInt - gn.toInt) ≤ v73_7.toInt ∧ ((rb (10 * u1.toInt + 8).toNat).toInt - gn.toInt) ≤ v52_6.toInt ∧ v52_6.toInt ≤ (rb (10 * u1.toInt + 8).toNat).toInt + gn.toInt → v73_7.toInt ≤ (rb (10 * u1.toInt + 9).toNat).toInt + gn.toInt + 1 → (agr g73_gb_R (gY rb u1.toInt u2.toInt u3.toInt rg v52_6.toInt ((rb (10 * u1.toInt + 9).toNat).toInt - gn.toInt) (v73_7.toInt - ((rb (10 * u1.toInt + 9).toNat).toInt - gn.toInt)).toNat (gX rb u1.toInt u2.toInt u3.toInt rg ((rb (10 * u1.toInt + 8).toNat).toInt - gn.toInt) ((rb (10 * u1.toInt + 9).toNat).toInt - gn.toInt) (2 * gn.toInt + 1).toNat (v52_6.toInt - ((rb (10 * u1.toInt + 8).toNat).toInt - gn.toInt)).toNat (fun _ => 0)))) → W p l e rm_s_X11_goesX s m args below meth c H locs 0 0 Q (F0 m 73 ls []) := by
            intro n73
            induction n73 with
            | zero => intro ls f_73 H locs v73_7 g73_gb_R hm73 hl h t_73 o_73 jv73_6 iv73_7 k73_u0_14 k73_u0_6 k73_bq_R k73_u0_12 k73_u0_13 k73_ga_R k73_gb_R hv73_0 hv73_1 hv73_2 hv73_3; exact absurd hm73 (by omega)
            | succ n73 ih73 =>
              intro ls f_73 H locs v73_7 g73_gb_R hm73 hl h t_73 o_73 jv73_6 iv73_7 k73_u0_14 k73_u0_6 k73_bq_R k73_u0_12 k73_u0_13 k73_ga_R k73_gb_R hv73_0 hv73_1 hv73_2 hv73_3
              have L112 : ∀ (n112 : Nat) (ls : Array Slot) (f_112 : hM) (H : Heap) (locs : List Loc) (v112_8 : Int64) (v112_10 : Int32) (g112_gb_R : Nat → Int64), 8 - v112_10.toInt < (n112 : Int) → lv_has ls 14 [(0, .ref u0), (1, .int u1), (2, .int u2), (3, .int u3), (4, .int v52_4), (5, .int v52_5), (6, .int v52_6), (7, .int v73_7), (8, .long v112_8), (10, .int v112_10)] → hw D b0 s.heap f_112 H locs → TI G 9 τ f_112 → Fr [60, 67, 60013, 60014, 60015] τ f f_112 → iv v73_7 (-59) 68 → iv v112_10 0 8 → atp f_112 u0 (fd 14 (.int gn)) → atp f_112 u0 (fd 6 (.ref bq)) → atp f_112 bq (eqc (.inl (G 1, 81, .inl rb))) → atp f_112 u0 (fd 12 (.ref ga)) → atp f_112 u0 (fd 13 (.ref gb)) → atp f_112 ga (lrw G 19600 rg) → atp f_112 gb (lrw G 19600 g112_gb_R) → v52_4.toInt = (rb (10 * u1.toInt + 8).toNat).toInt ∧ v52_5.toInt = (rb (10 * u1.toInt + 9).toNat).toInt → ((rb (10 * u1.toInt + 9).toNat).toInt - gn.toInt) ≤ v73_7.toInt ∧ ((rb (10 * u1.toInt + 8).toNat).toInt - gn.toInt) ≤ v52_6.toInt ∧ v52_6.toInt ≤ (rb (10 * u1.toInt + 8).toNat).toInt + gn.toInt → v73_7.toInt ≤ (rb (10 * u1.toInt + 9).toNat).toInt + gn.toInt → (v112_8 = rg (cel v52_6.toInt v73_7.toInt)) → (v112_8 ≠ 0) → (cel v52_6.toInt v73_7.toInt < 19600) → (agr g112_gb_R (gS rb u1.toInt u2.toInt u3.toInt v52_6.toInt v73_7.toInt v112_8 (v112_10.toInt : Int).toNat (gY rb u1.toInt u2.toInt u3.toInt rg v52_6.toInt ((rb (10 * u1.toInt + 9).toNat).toInt - gn.toInt) (v73_7.toInt - ((rb (10 * u1.toInt + 9).toNat).toInt - gn.toInt)).toNat (gX rb u1.toInt u2.toInt u3.toInt rg ((rb (10 * u1.toInt + 8).toNat).toInt - gn.toInt) ((rb (10 * u1.toInt + 9).toNat).toInt - gn.toInt) (2 * gn.toInt + 1).toNat (v52_6.toInt - ((rb (10 * u1.toInt + 8).toNat).toInt - gn.toInt)).toNat (fun _ => 0))))) → W p l e rm_s_X11_goesX s m args below meth c H locs 0 0 Q (F0 m 112 ls []) := by
                intro n112
                induction n112 with
                | zero => intro ls f_112 H locs v112_8 v112_10 g112_gb_R hm112 hl h t_112 o_112 jv112_7 iv112_10 k112_u0_14 k112_u0_6 k112_bq_R k112_u0_12 k112_u0_13 k112_ga_R k112_gb_R hv112_0 hv112_1 hv112_2 hv112_3 hv112_4 hv112_5 hv112_6; exact absurd hm112 (by omega)
                | succ n112 ih112 =>
                  intro ls f_112 H locs v112_8 v112_10 g112_gb_R hm112 hl h t_112 o_112 jv112_7 iv112_10 k112_u0_14 k112_u0_6 k112_bq_R k112_u0_12 k112_u0_13 k112_ga_R k112_gb_R hv112_0 hv112_1 hv112_2 hv112_3 hv112_4 hv112_5 hv112_6
                  refine lv_iload hx hb dX11_goes_112 (lv_at hl 9 rfl) ?_
                  refine lv_bipush (v := 8) hx hb dX11_goes_114 (by decide) ?_
                  refine lv_icmp_ge (tgt := 202) hx hb dX11_goes_116 (by decide) (fun c1 => ?_) (fun c1 => ?_)
                  · have c2 : 8 ≤ v112_10.toInt := Int32.le_iff_toInt_le.mp c1
                    have i3 : iv v112_10 8 8 := iv_Er c2 (iv_k (x := 8) (k := 8) rfl) iv112_10 (by decide)
                    refine i_inc hx hb dX11_goes_202 hl (k := 7) rfl jv112_7 rfl (lo := (-58)) (hi := 69) (by decide) (by decide) (lv' := fun v => [(7, .int v), (0, .ref u0), (1, .int u1), (2, .int u2), (3, .int u3), (4, .int v52_4), (5, .int v52_5), (6, .int v52_6), (8, .long v112_8), (10, .int v112_10)]) (fun _ => rfl) (fun z6 ls ez6 mz6 iz6 hl => ?_)
                    refine lv_goto (tgt := 73) hx hb dX11_goes_205 (by decide) ?_
                    exact ih73 ls f_112 H locs z6 g112_gb_R (show 69 - z6.toInt < _ by omega) (lv_cons hl 1 rfl (lv_cons hl 2 rfl (lv_cons hl 3 rfl (lv_cons hl 4 rfl (lv_cons hl 5 rfl (lv_cons hl 6 rfl (lv_cons hl 7 rfl (lv_cons hl 0 rfl (lv_nil hl))))))))) h t_112 o_112 jv73_6 (iv_w iz6 (by decide)) k112_u0_14 k112_u0_6 k112_bq_R k112_u0_12 k112_u0_13 k112_ga_R k112_gb_R (show v52_4.toInt = (rb (10 * u1.toInt + 8).toNat).toInt ∧ v52_5.toInt = (rb (10 * u1.toInt + 9).toNat).toInt by omega) (show ((rb (10 * u1.toInt + 9).toNat).toInt - gn.toInt) ≤ z6.toInt ∧ ((rb (10 * u1.toInt + 8).toNat).toInt - gn.toInt) ≤ v52_6.toInt ∧ v52_6.toInt ≤ (rb (10 * u1.toInt + 8).toNat).toInt + gn.toInt by omega) (show z6.toInt ≤ (rb (10 * u1.toInt + 9).toNat).toInt + gn.toInt + 1 by omega) (show agr g112_gb_R (gY rb u1.toInt u2.toInt u3.toInt rg v52_6.toInt ((rb (10 * u1.toInt + 9).toNat).toInt - gn.toInt) (z6.toInt - ((rb (10 * u1.toInt + 9).toNat).toInt - gn.toInt)).toNat (gX rb u1.toInt u2.toInt u3.toInt rg ((rb (10 * u1.toInt + 8).toNat).toInt - gn.toInt) ((rb (10 * u1.toInt + 9).toNat).toInt - gn.toInt) (2 * gn.toInt + 1).toNat (v52_6.toInt - ((rb (10 * u1.toInt + 8).toNat).toInt - gn.toInt)).toNat (fun _ => 0))) from (by rw [gY_s (y := v73_7.toInt) (by omega) (by omega), if_pos ⟨hv112_5, by rw [← hv112_3]; exact hv112_4⟩, ← hv112_3]; have h_ := hv112_6; rw [show v112_10.toInt.toNat = 8 by omega] at h_; exact h_))
                  · have c4 : v112_10.toInt < 8 := Int32.lt_iff_toInt_lt.mp (iv_nle c1)
                    have i5 : iv v112_10 0 7 := iv_Ll c4 iv112_10 (iv_k (x := 8) (k := 8) rfl) (by decide)
                    refine lv_aload_n hx hb dX11_goes_119 rfl (lv_at hl 0 rfl) ?_
                    refine lv_iload_n hx hb dX11_goes_120 rfl (lv_at hl 1 rfl) ?_
                    refine lv_iload hx hb dX11_goes_121 (lv_at hl 9 rfl) ?_
                    obtain ⟨_, r7⟩ := t_rec t_112 hu0 (by decide) wf_60
                    refine k_i (r_V C h hl (As := [.int u1, .int v112_10]) (rest := []) (s_X11_weightOfX l D G b0 τ f_112 t_112 u0 hu0 u1 hu1 v112_10 (iv_w i5 (by decide)) bq hbq k112_u0_6 rb k112_bq_R) r7 (Cn := RX11) (T := TX11) (N := 32) rfl rfl mk_X11_weightOf w_1631 w_1633 w_52 w_1634 ⟨Nat.le_of_ble_eq_true rfl, Nat.le_of_ble_eq_true rfl⟩ rfl (Nat.le_of_ble_eq_true rfl) ⟨Nat.le_of_ble_eq_true rfl, Nat.le_of_ble_eq_true rfl⟩ rfl dX11_goes_123) h (fun r8 f9 H locs p10 h => ?_)
                    obtain ⟨ir8, tf9, ogf9, x0r8, x1r8⟩ := p10
                    have egf9 := Fr.nil2 ogf9
                    subst egf9
                    have xw_ : r8 = rb (10 * u1.toInt + v112_10.toInt).toNat := x0r8
                    have xwi_ := x1r8
                    refine lv_istore (lv' := [(11, .int r8), (0, .ref u0), (1, .int u1), (2, .int u2), (3, .int u3), (4, .int v52_4), (5, .int v52_5), (6, .int v52_6), (7, .int v73_7), (8, .long v112_8), (10, .int v112_10)]) hx hb dX11_goes_126 hl (by decide) rfl (fun ls hl => ?_)
                    refine lv_iload hx hb dX11_goes_128 (lv_at hl 7 rfl) ?_
                    refine lv_iload hx hb dX11_goes_130 (lv_at hl 10 rfl) ?_
                    refine k_i (r_S C h hl (As := [.int v112_10]) (rest := [.int v52_6]) (s_X11_dxX l D G b0 τ f_112 t_112 v112_10 i5) mk_X11_dx w_1675 w_1676 w_1677 ⟨Nat.le_of_ble_eq_true rfl, Nat.le_of_ble_eq_true rfl⟩ rfl (Nat.le_of_ble_eq_true rfl) ⟨Nat.le_of_ble_eq_true rfl, Nat.le_of_ble_eq_true rfl⟩ rfl dX11_goes_132) h (fun r11 f12 H locs p13 h => ?_)
                    obtain ⟨ir11, tf12, ogf12, x0r11⟩ := p13
                    have egf12 := Fr.nil2 ogf12
                    subst egf12
                    refine i_add hx hb dX11_goes_135 jv73_6 ir11 (lo := (-60)) (hi := 69) (by decide) (fun z14 ez14 mz14 iz14 => ?_)
                    have e12_ : z14.toInt = v52_6.toInt + ddx v112_10.toInt := by omega
                    refine lv_istore (lv' := [(12, .int z14), (11, .int r8), (0, .ref u0), (1, .int u1), (2, .int u2), (3, .int u3), (4, .int v52_4), (5, .int v52_5), (6, .int v52_6), (7, .int v73_7), (8, .long v112_8), (10, .int v112_10)]) hx hb dX11_goes_136 hl (by decide) rfl (fun ls hl => ?_)
                    refine lv_iload hx hb dX11_goes_138 (lv_at hl 9 rfl) ?_
                    refine lv_iload hx hb dX11_goes_140 (lv_at hl 11 rfl) ?_
                    refine k_i (r_S C h hl (As := [.int v112_10]) (rest := [.int v73_7]) (s_X11_dyX l D G b0 τ f_112 t_112 v112_10 i5) mk_X11_dy w_1678 w_1679 w_1680 ⟨Nat.le_of_ble_eq_true rfl, Nat.le_of_ble_eq_true rfl⟩ rfl (Nat.le_of_ble_eq_true rfl) ⟨Nat.le_of_ble_eq_true rfl, Nat.le_of_ble_eq_true rfl⟩ rfl dX11_goes_142) h (fun r15 f16 H locs p17 h => ?_)
                    obtain ⟨ir15, tf16, ogf16, x0r15⟩ := p17
                    have egf16 := Fr.nil2 ogf16
                    subst egf16
                    refine i_add hx hb dX11_goes_145 jv112_7 ir15 (lo := (-60)) (hi := 69) (by decide) (fun z18 ez18 mz18 iz18 => ?_)
                    have e13_ : z18.toInt = v73_7.toInt + ddy v112_10.toInt := by omega
                    refine lv_istore (lv' := [(13, .int z18), (12, .int z14), (11, .int r8), (0, .ref u0), (1, .int u1), (2, .int u2), (3, .int u3), (4, .int v52_4), (5, .int v52_5), (6, .int v52_6), (7, .int v73_7), (8, .long v112_8), (10, .int v112_10)]) hx hb dX11_goes_146 hl (by decide) rfl (fun ls hl => ?_)
                    refine lv_iload hx hb dX11_goes_148 (lv_at hl 2 rfl) ?_
                    refine lv_if_le (tgt := 196) hx hb dX11_goes_150 (by decide) (fun c19 => ?_) (fun c19 => ?_)
                    · have c20 : r8.toInt ≤ 0 := Int32.le_iff_toInt_le.mp c19
                      have i21 : iv r8 0 0 := iv_El c20 ir8 (iv_k (x := 0) (k := 0) rfl) (by decide)
                      refine i_inc hx hb dX11_goes_196 hl (k := 12) rfl i5 rfl (lo := 1) (hi := 8) (by decide) (by decide) (lv' := fun v => [(10, .int v), (13, .int z18), (12, .int z14), (11, .int r8), (0, .ref u0), (1, .int u1), (2, .int u2), (3, .int u3), (4, .int v52_4), (5, .int v52_5), (6, .int v52_6), (7, .int v73_7), (8, .long v112_8)]) (fun _ => rfl) (fun z24 ls ez24 mz24 iz24 hl => ?_)
                      refine lv_goto (tgt := 112) hx hb dX11_goes_199 (by decide) ?_
                      exact ih112 ls f_112 H locs v112_8 z24 g112_gb_R (show 8 - z24.toInt < _ by omega) (lv_cons hl 4 rfl (lv_cons hl 5 rfl (lv_cons hl 6 rfl (lv_cons hl 7 rfl (lv_cons hl 8 rfl (lv_cons hl 9 rfl (lv_cons hl 10 rfl (lv_cons hl 11 rfl (lv_cons hl 12 rfl (lv_cons hl 0 rfl (lv_nil hl))))))))))) h t_112 o_112 jv112_7 (iv_w iz24 (by decide)) k112_u0_14 k112_u0_6 k112_bq_R k112_u0_12 k112_u0_13 k112_ga_R k112_gb_R (show v52_4.toInt = (rb (10 * u1.toInt + 8).toNat).toInt ∧ v52_5.toInt = (rb (10 * u1.toInt + 9).toNat).toInt by omega) (show ((rb (10 * u1.toInt + 9).toNat).toInt - gn.toInt) ≤ v73_7.toInt ∧ ((rb (10 * u1.toInt + 8).toNat).toInt - gn.toInt) ≤ v52_6.toInt ∧ v52_6.toInt ≤ (rb (10 * u1.toInt + 8).toNat).toInt + gn.toInt by omega) (show v73_7.toInt ≤ (rb (10 * u1.toInt + 9).toNat).toInt + gn.toInt by omega) (show v112_8 = rg (cel v52_6.toInt v73_7.toInt) from hv112_3) (show v112_8 ≠ 0 from hv112_4) (show cel v52_6.toInt v73_7.toInt < 19600 from hv112_5) (show agr g112_gb_R (gS rb u1.toInt u2.toInt u3.toInt v52_6.toInt v73_7.toInt v112_8 (z24.toInt : Int).toNat (gY rb u1.toInt u2.toInt u3.toInt rg v52_6.toInt ((rb (10 * u1.toInt + 9).toNat).toInt - gn.toInt) (v73_7.toInt - ((rb (10 * u1.toInt + 9).toNat).toInt - gn.toInt)).toNat (gX rb u1.toInt u2.toInt u3.toInt rg ((rb (10 * u1.toInt + 8).toNat).toInt - gn.toInt) ((rb (10 * u1.toInt + 9).toNat).toInt - gn.toInt) (2 * gn.toInt + 1).toNat (v52_6.toInt - ((rb (10 * u1.toInt + 8).toNat).toInt - gn.toInt)).toNat (fun _ => 0)))) from (by rw [gS_s (i := v112_10.toInt) (by omega) (by omega), if_neg (fun z_ => by have h_ := z_.1; omega)]; exact hv112_6))
                    · have c22 : 0 < r8.toInt := Int32.lt_iff_toInt_lt.mp (iv_nle c19)
                      have i23 : iv r8 1 9 := iv_Lr c22 (iv_k (x := 0) (k := 0) rfl) ir8 (by decide)
                      refine lv_iload_n hx hb dX11_goes_153 rfl (lv_at hl 5 rfl) ?_
                      refine lv_iload hx hb dX11_goes_154 (lv_at hl 1 rfl) ?_
                      refine lv_iload hx hb dX11_goes_156 (lv_at hl 0 rfl) ?_
                      refine k_i (r_S C h hl (As := [.int u2, .int z14, .int z18]) (rest := []) (s_X11_isInsideX l D G b0 τ f_112 t_112 u2 hu2 z14 (iv_w iz14 (by decide)) z18 (iv_w iz18 (by decide))) mk_X11_isInside w_1713 w_1714 w_1715 ⟨Nat.le_of_ble_eq_true rfl, Nat.le_of_ble_eq_true rfl⟩ rfl (Nat.le_of_ble_eq_true rfl) ⟨Nat.le_of_ble_eq_true rfl, Nat.le_of_ble_eq_true rfl⟩ rfl dX11_goes_158) h (fun r25 f26 H locs p27 h => ?_)
                      obtain ⟨ir25, tf26, ogf26, cnr25, czr25⟩ := p27
                      have egf26 := Fr.nil2 ogf26
                      subst egf26
                      refine lv_if_eq (tgt := 196) hx hb dX11_goes_161 (by decide) (fun c28 => ?_) (fun c28 => ?_)
                      · have c29 : r25.toInt = 0 := congrArg Int32.toInt c28
                        have i30 : iv r25 0 0 := iv_Q c29 ir25 (iv_k (x := 0) (k := 0) rfl) (by decide)
                        have i31 := czr25 c29
                        refine i_inc hx hb dX11_goes_196 hl (k := 12) rfl i5 rfl (lo := 1) (hi := 8) (by decide) (by decide) (lv' := fun v => [(10, .int v), (13, .int z18), (12, .int z14), (11, .int r8), (0, .ref u0), (1, .int u1), (2, .int u2), (3, .int u3), (4, .int v52_4), (5, .int v52_5), (6, .int v52_6), (7, .int v73_7), (8, .long v112_8)]) (fun _ => rfl) (fun z35 ls ez35 mz35 iz35 hl => ?_)
                        refine lv_goto (tgt := 112) hx hb dX11_goes_199 (by decide) ?_
                        exact ih112 ls f_112 H locs v112_8 z35 g112_gb_R (show 8 - z35.toInt < _ by omega) (lv_cons hl 4 rfl (lv_cons hl 5 rfl (lv_cons hl 6 rfl (lv_cons hl 7 rfl (lv_cons hl 8 rfl (lv_cons hl 9 rfl (lv_cons hl 10 rfl (lv_cons hl 11 rfl (lv_cons hl 12 rfl (lv_cons hl 0 rfl (lv_nil hl))))))))))) h t_112 o_112 jv112_7 (iv_w iz35 (by decide)) k112_u0_14 k112_u0_6 k112_bq_R k112_u0_12 k112_u0_13 k112_ga_R k112_gb_R (show v52_4.toInt = (rb (10 * u1.toInt + 8).toNat).toInt ∧ v52_5.toInt = (rb (10 * u1.toInt + 9).toNat).toInt by omega) (show ((rb (10 * u1.toInt + 9).toNat).toInt - gn.toInt) ≤ v73_7.toInt ∧ ((rb (10 * u1.toInt + 8).toNat).toInt - gn.toInt) ≤ v52_6.toInt ∧ v52_6.toInt ≤ (rb (10 * u1.toInt + 8).toNat).toInt + gn.toInt by omega) (show v73_7.toInt ≤ (rb (10 * u1.toInt + 9).toNat).toInt + gn.toInt by omega) (show v112_8 = rg (cel v52_6.toInt v73_7.toInt) from hv112_3) (show v112_8 ≠ 0 from hv112_4) (show cel v52_6.toInt v73_7.toInt < 19600 from hv112_5) (show agr g112_gb_R (gS rb u1.toInt u2.toInt u3.toInt v52_6.toInt v73_7.toInt v112_8 (z35.toInt : Int).toNat (gY rb u1.toInt u2.toInt u3.toInt rg v52_6.toInt ((rb (10 * u1.toInt + 9).toNat).toInt - gn.toInt) (v73_7.toInt - ((rb (10 * u1.toInt + 9).toNat).toInt - gn.toInt)).toNat (gX rb u1.toInt u2.toInt u3.toInt rg ((rb (10 * u1.toInt + 8).toNat).toInt - gn.toInt) ((rb (10 * u1.toInt + 9).toNat).toInt - gn.toInt) (2 * gn.toInt + 1).toNat (v52_6.toInt - ((rb (10 * u1.toInt + 8).toNat).toInt - gn.toInt)).toNat (fun _ => 0)))) from (by rw [gS_s (i := v112_10.toInt) (by omega) (by omega), if_neg (fun z_ => i31 (by rw [e12_, e13_]; exact z_.2.1))]; exact hv112_6))
                      · have c32 : r25.toInt ≠ 0 := fun z_ => c28 (Int32.toInt_inj.mp z_)
                        have i33 : iv r25 1 1 := iv_Nl c32 ir25 (by decide)
                        have i34 := cnr25 c32
                        refine lv_aload_n hx hb dX11_goes_164 rfl (lv_at hl 3 rfl) ?_
                        refine t_getfd C h t_112 hu0 (by decide) wf_60 (v := .ref gb) k112_u0_13 fl_X11_33 dX11_goes_165 ?_
                        refine lv_iload hx hb dX11_goes_168 (lv_at hl 1 rfl) ?_
                        refine lv_iload hx hb dX11_goes_170 (lv_at hl 0 rfl) ?_
                        refine k_i (r_S C h hl (As := [.int z14, .int z18]) (rest := [.ref gb]) (s_X11_cell l D G b0 τ f_112 t_112 z14 (iv_w iz14 (by decide)) z18 (iv_w iz18 (by decide))) mk_X11_cell w_1706 w_1707 w_1708 ⟨Nat.le_of_ble_eq_true rfl, Nat.le_of_ble_eq_true rfl⟩ rfl (Nat.le_of_ble_eq_true rfl) ⟨Nat.le_of_ble_eq_true rfl, Nat.le_of_ble_eq_true rfl⟩ rfl dX11_goes_172) h (fun r36 f37 H locs p38 h => ?_)
                        obtain ⟨ir36, tf37, ogf37, x0r36⟩ := p38
                        have egf37 := Fr.nil2 ogf37
                        subst egf37
                        have cqr36 : r36.toInt.toNat = cel z14.toInt z18.toInt := by unfold cel; omega
                        refine lv_aload_n hx hb dX11_goes_175 rfl (lv_at hl 3 rfl) ?_
                        refine t_getfd C h t_112 hu0 (by decide) wf_60 (v := .ref gb) k112_u0_13 fl_X11_33 dX11_goes_176 ?_
                        refine lv_iload hx hb dX11_goes_179 (lv_at hl 1 rfl) ?_
                        refine lv_iload hx hb dX11_goes_181 (lv_at hl 0 rfl) ?_
                        refine k_i (r_S C h hl (As := [.int z14, .int z18]) (rest := [.ref gb, .int r36, .ref gb]) (s_X11_cell l D G b0 τ f_112 t_112 z14 (iv_w iz14 (by decide)) z18 (iv_w iz18 (by decide))) mk_X11_cell w_1706 w_1707 w_1708 ⟨Nat.le_of_ble_eq_true rfl, Nat.le_of_ble_eq_true rfl⟩ rfl (Nat.le_of_ble_eq_true rfl) ⟨Nat.le_of_ble_eq_true rfl, Nat.le_of_ble_eq_true rfl⟩ rfl dX11_goes_183) h (fun r39 f40 H locs p41 h => ?_)
                        obtain ⟨ir39, tf40, ogf40, x0r39⟩ := p41
                        have egf40 := Fr.nil2 ogf40
                        subst egf40
                        have cqr39 : r39.toInt.toNat = cel z14.toInt z18.toInt := by unfold cel; omega
                        refine e_lald C h t_112 hgb (by decide) wf_67 k112_gb_R (iv_in ir39 (by decide)) dX11_goes_186 (fun w42 ew42 => ?_)
                        refine lv_lload hx hb dX11_goes_187 (lv_at hl 11 rfl) ?_
                        refine lv_iload hx hb dX11_goes_189 (lv_at hl 2 rfl) ?_
                        refine lv_iload_n hx hb dX11_goes_191 rfl (lv_at hl 6 rfl) ?_
                        refine k_l (r_S C h hl (As := [.long w42, .long v112_8, .int r8, .int u3]) (rest := [.int r36, .ref gb]) (s_X11_withX l D G b0 τ f_112 t_112 w42 v112_8 r8 (iv_w i23 (by decide)) u3 hu3) mk_X11_with w_1716 w_1717 w_1718 ⟨Nat.le_of_ble_eq_true rfl, Nat.le_of_ble_eq_true rfl⟩ rfl (Nat.le_of_ble_eq_true rfl) ⟨Nat.le_of_ble_eq_true rfl, Nat.le_of_ble_eq_true rfl⟩ rfl dX11_goes_192) h (fun r43 f44 H locs p45 h => ?_)
                        obtain ⟨tf44, ogf44, x0r43⟩ := p45
                        have egf44 := Fr.nil2 ogf44
                        subst egf44
                        refine e_last C h t_112 o_112 hgb (by decide) (by decide) wf_67 fw_67 k112_gb_R (x := r43) (iv_in ir36 (by decide)) dX11_goes_195 (fun R48 f46 erR48 H locs h tf46 of46 hq hn_ k47 => ?_)
                        have k49 := atp.tg k112_u0_14 hq hu0 (by decide)
                        have k50 := atp.tg k112_u0_6 hq hu0 (by decide)
                        have k51 := atp.tg k112_bq_R hq hbq (by decide)
                        have k52 := atp.tg k112_u0_12 hq hu0 (by decide)
                        have k53 := atp.tg k112_u0_13 hq hu0 (by decide)
                        have k54 := atp.tr k112_ga_R (hn_ ga hab)
                        refine i_inc hx hb dX11_goes_196 hl (k := 12) rfl i5 rfl (lo := 1) (hi := 8) (by decide) (by decide) (lv' := fun v => [(10, .int v), (13, .int z18), (12, .int z14), (11, .int r8), (0, .ref u0), (1, .int u1), (2, .int u2), (3, .int u3), (4, .int v52_4), (5, .int v52_5), (6, .int v52_6), (7, .int v73_7), (8, .long v112_8)]) (fun _ => rfl) (fun z56 ls ez56 mz56 iz56 hl => ?_)
                        refine lv_goto (tgt := 112) hx hb dX11_goes_199 (by decide) ?_
                        exact ih112 ls f46 H locs v112_8 z56 R48 (show 8 - z56.toInt < _ by omega) (lv_cons hl 4 rfl (lv_cons hl 5 rfl (lv_cons hl 6 rfl (lv_cons hl 7 rfl (lv_cons hl 8 rfl (lv_cons hl 9 rfl (lv_cons hl 10 rfl (lv_cons hl 11 rfl (lv_cons hl 12 rfl (lv_cons hl 0 rfl (lv_nil hl))))))))))) h tf46 of46 jv112_7 (iv_w iz56 (by decide)) k49 k50 k51 k52 k53 k54 k47 (show v52_4.toInt = (rb (10 * u1.toInt + 8).toNat).toInt ∧ v52_5.toInt = (rb (10 * u1.toInt + 9).toNat).toInt by omega) (show ((rb (10 * u1.toInt + 9).toNat).toInt - gn.toInt) ≤ v73_7.toInt ∧ ((rb (10 * u1.toInt + 8).toNat).toInt - gn.toInt) ≤ v52_6.toInt ∧ v52_6.toInt ≤ (rb (10 * u1.toInt + 8).toNat).toInt + gn.toInt by omega) (show v73_7.toInt ≤ (rb (10 * u1.toInt + 9).toNat).toInt + gn.toInt by omega) (show v112_8 = rg (cel v52_6.toInt v73_7.toInt) from hv112_3) (show v112_8 ≠ 0 from hv112_4) (show cel v52_6.toInt v73_7.toInt < 19600 from hv112_5) (show agr R48 (gS rb u1.toInt u2.toInt u3.toInt v52_6.toInt v73_7.toInt v112_8 (z56.toInt : Int).toNat (gY rb u1.toInt u2.toInt u3.toInt rg v52_6.toInt ((rb (10 * u1.toInt + 9).toNat).toInt - gn.toInt) (v73_7.toInt - ((rb (10 * u1.toInt + 9).toNat).toInt - gn.toInt)).toNat (gX rb u1.toInt u2.toInt u3.toInt rg ((rb (10 * u1.toInt + 8).toNat).toInt - gn.toInt) ((rb (10 * u1.toInt + 9).toNat).toInt - gn.toInt) (2 * gn.toInt + 1).toNat (v52_6.toInt - ((rb (10 * u1.toInt + 8).toNat).toInt - gn.toInt)).toNat (fun _ => 0)))) from (by
                            rw [gS_s (i := v112_10.toInt) (by omega) (by omega), if_pos ⟨by omega, (by have h_ := i34; rw [e12_, e13_] at h_; exact h_), (by rw [← e12_, ← e13_, ← cqr36]; omega)⟩]
                            intro k hk; rw [erR48]
                            have hc_ : cel (v52_6.toInt + ddx v112_10.toInt) (v73_7.toInt + ddy v112_10.toInt) = r36.toInt.toNat := by rw [← e12_, ← e13_, ← cqr36]
                            rw [hc_]; by_cases q_ : k = r36.toInt.toNat
                            · rw [updL_at q_, updL_at q_, x0r43, ← hv112_6 _ (by omega), ← xw_]
                              exact congrArg (fun z_ => wth z_ _ _ _) (by rw [ew42]; exact congrArg _ (by rw [cqr39, ← cqr36]))
                            · rw [updL_off q_, updL_off q_]; exact hv112_6 k hk))
              refine lv_iload hx hb dX11_goes_73 (lv_at hl 7 rfl) ?_
              refine lv_iload hx hb dX11_goes_75 (lv_at hl 5 rfl) ?_
              refine lv_aload_n hx hb dX11_goes_77 rfl (lv_at hl 0 rfl) ?_
              refine t_getfd C h t_73 hu0 (by decide) wf_60 (v := .int gn) k73_u0_14 fl_X11_209 dX11_goes_78 ?_
              refine i_add hx hb dX11_goes_81 iv52_5 hgn (lo := 0) (hi := 68) (by decide) (fun z57 ez57 mz57 iz57 => ?_)
              refine lv_icmp_gt (tgt := 208) hx hb dX11_goes_82 (by decide) (fun c58 => ?_) (fun c58 => ?_)
              · have c59 : z57.toInt < v73_7.toInt := Int32.lt_iff_toInt_lt.mp c58
                have i60 : iv v73_7 1 69 := iv_Lr c59 iz57 iv73_7 (by decide)
                refine i_inc hx hb dX11_goes_208 hl (k := 6) rfl jv73_6 rfl (lo := (-58)) (hi := 69) (by decide) (by decide) (lv' := fun v => [(6, .int v), (0, .ref u0), (1, .int u1), (2, .int u2), (3, .int u3), (4, .int v52_4), (5, .int v52_5), (7, .int v73_7)]) (fun _ => rfl) (fun z63 ls ez63 mz63 iz63 hl => ?_)
                refine lv_goto (tgt := 52) hx hb dX11_goes_211 (by decide) ?_
                exact ih52 ls f_73 H locs v52_4 v52_5 z63 g73_gb_R (show 69 - z63.toInt < _ by omega) (lv_cons hl 1 rfl (lv_cons hl 2 rfl (lv_cons hl 3 rfl (lv_cons hl 4 rfl (lv_cons hl 5 rfl (lv_cons hl 6 rfl (lv_cons hl 0 rfl (lv_nil hl)))))))) h t_73 o_73 iv52_4 iv52_5 (iv_w iz63 (by decide)) k73_u0_14 k73_u0_6 k73_bq_R k73_u0_12 k73_u0_13 k73_ga_R k73_gb_R (show v52_4.toInt = (rb (10 * u1.toInt + 8).toNat).toInt ∧ v52_5.toInt = (rb (10 * u1.toInt + 9).toNat).toInt by omega) (show ((rb (10 * u1.toInt + 8).toNat).toInt - gn.toInt) ≤ z63.toInt by omega) (show z63.toInt ≤ (rb (10 * u1.toInt + 8).toNat).toInt + gn.toInt + 1 by omega) (show agr g73_gb_R (gX rb u1.toInt u2.toInt u3.toInt rg ((rb (10 * u1.toInt + 8).toNat).toInt - gn.toInt) ((rb (10 * u1.toInt + 9).toNat).toInt - gn.toInt) (2 * gn.toInt + 1).toNat (z63.toInt - ((rb (10 * u1.toInt + 8).toNat).toInt - gn.toInt)).toNat (fun _ => 0)) from (by rw [gX_s (x := v52_6.toInt) (by omega) (by omega)]; have h_ := hv73_3; rw [show (v73_7.toInt - ((rb (10 * u1.toInt + 9).toNat).toInt - gn.toInt)).toNat = (2 * gn.toInt + 1).toNat by omega] at h_; exact h_))
              · have c61 : v73_7.toInt ≤ z57.toInt := Int32.le_iff_toInt_le.mp (iv_nlt c58)
                have i62 : iv v73_7 (-59) 68 := iv_El c61 iv73_7 iz57 (by decide)
                refine lv_aload_n hx hb dX11_goes_85 rfl (lv_at hl 0 rfl) ?_
                refine t_getfd C h t_73 hu0 (by decide) wf_60 (v := .ref ga) k73_u0_12 fl_X11_29 dX11_goes_86 ?_
                refine lv_iload hx hb dX11_goes_89 (lv_at hl 6 rfl) ?_
                refine lv_iload hx hb dX11_goes_91 (lv_at hl 7 rfl) ?_
                refine k_i (r_S C h hl (As := [.int v52_6, .int v73_7]) (rest := [.ref ga]) (s_X11_cell l D G b0 τ f_73 t_73 v52_6 (iv_w jv73_6 (by decide)) v73_7 (iv_w i62 (by decide))) mk_X11_cell w_1706 w_1707 w_1708 ⟨Nat.le_of_ble_eq_true rfl, Nat.le_of_ble_eq_true rfl⟩ rfl (Nat.le_of_ble_eq_true rfl) ⟨Nat.le_of_ble_eq_true rfl, Nat.le_of_ble_eq_true rfl⟩ rfl dX11_goes_93) h (fun r64 f65 H locs p66 h => ?_)
                obtain ⟨ir64, tf65, ogf65, x0r64⟩ := p66
                have egf65 := Fr.nil2 ogf65
                subst egf65
                have cqr64 : r64.toInt.toNat = cel v52_6.toInt v73_7.toInt := by unfold cel; omega
                refine e_lald C h t_73 hga (by decide) wf_67 k73_ga_R (iv_in ir64 (by decide)) dX11_goes_96 (fun w67 ew67 => ?_)
                refine lv_lstore (lv' := [(8, .long w67), (0, .ref u0), (1, .int u1), (2, .int u2), (3, .int u3), (4, .int v52_4), (5, .int v52_5), (6, .int v52_6), (7, .int v73_7)]) hx hb dX11_goes_97 hl (by decide) rfl (fun ls hl => ?_)
                refine lv_lload hx hb dX11_goes_99 (lv_at hl 0 rfl) ?_
                refine lv_lconst (v := 0) hx hb dX11_goes_101 (by decide) ?_
                refine W.lcmp hx hb dX11_goes_102 (i_topc (fun z68 ez68 mz68 iz68 => ?_))
                refine lv_if_ne (tgt := 109) hx hb dX11_goes_103 (by decide) (fun c69 => ?_) (fun c69 => ?_)
                · have c70 : z68.toInt ≠ 0 := fun z_ => c69 (Int32.toInt_inj.mp z_)
                  refine lv_iconst (v := 0) hx hb dX11_goes_109 (by decide) ?_
                  refine lv_istore (lv' := [(10, .int 0), (8, .long w67), (0, .ref u0), (1, .int u1), (2, .int u2), (3, .int u3), (4, .int v52_4), (5, .int v52_5), (6, .int v52_6), (7, .int v73_7)]) hx hb dX11_goes_110 hl (by decide) rfl (fun ls hl => ?_)
                  exact L112 9 ls f_73 H locs w67 0 g73_gb_R (by decide) (lv_cons hl 2 rfl (lv_cons hl 3 rfl (lv_cons hl 4 rfl (lv_cons hl 5 rfl (lv_cons hl 6 rfl (lv_cons hl 7 rfl (lv_cons hl 8 rfl (lv_cons hl 9 rfl (lv_cons hl 1 rfl (lv_cons hl 0 rfl (lv_nil hl))))))))))) h t_73 o_73 i62 ⟨by decide, by decide⟩ k73_u0_14 k73_u0_6 k73_bq_R k73_u0_12 k73_u0_13 k73_ga_R k73_gb_R (show v52_4.toInt = (rb (10 * u1.toInt + 8).toNat).toInt ∧ v52_5.toInt = (rb (10 * u1.toInt + 9).toNat).toInt by omega) (show ((rb (10 * u1.toInt + 9).toNat).toInt - gn.toInt) ≤ v73_7.toInt ∧ ((rb (10 * u1.toInt + 8).toNat).toInt - gn.toInt) ≤ v52_6.toInt ∧ v52_6.toInt ≤ (rb (10 * u1.toInt + 8).toNat).toInt + gn.toInt by omega) (show v73_7.toInt ≤ (rb (10 * u1.toInt + 9).toNat).toInt + gn.toInt by omega) (show w67 = rg (cel v52_6.toInt v73_7.toInt) from (by rw [ew67, cqr64])) (show w67 ≠ 0 from (fun z_ => by have h_ := congrArg Int64.toInt z_; have n_ : (0 : Int64).toInt = 0 := rfl; omega)) (show cel v52_6.toInt v73_7.toInt < 19600 from (by rw [← cqr64]; omega)) (show agr g73_gb_R (gS rb u1.toInt u2.toInt u3.toInt v52_6.toInt v73_7.toInt w67 (0 : Int).toNat (gY rb u1.toInt u2.toInt u3.toInt rg v52_6.toInt ((rb (10 * u1.toInt + 9).toNat).toInt - gn.toInt) (v73_7.toInt - ((rb (10 * u1.toInt + 9).toNat).toInt - gn.toInt)).toNat (gX rb u1.toInt u2.toInt u3.toInt rg ((rb (10 * u1.toInt + 8).toNat).toInt - gn.toInt) ((rb (10 * u1.toInt + 9).toNat).toInt - gn.toInt) (2 * gn.toInt + 1).toNat (v52_6.toInt - ((rb (10 * u1.toInt + 8).toNat).toInt - gn.toInt)).toNat (fun _ => 0)))) from hv73_3)
                · have c71 : z68.toInt = 0 := congrArg Int32.toInt c69
                  have i72 : iv z68 0 0 := iv_Q c71 iz68 (iv_k (x := 0) (k := 0) rfl) (by decide)
                  refine lv_goto (tgt := 202) hx hb dX11_goes_106 (by decide) ?_
                  refine i_inc hx hb dX11_goes_202 hl (k := 8) rfl i62 rfl (lo := (-58)) (hi := 69) (by decide) (by decide) (lv' := fun v => [(7, .int v), (8, .long w67), (0, .ref u0), (1, .int u1), (2, .int u2), (3, .int u3), (4, .int v52_4), (5, .int v52_5), (6, .int v52_6)]) (fun _ => rfl) (fun z73 ls ez73 mz73 iz73 hl => ?_)
                  refine lv_goto (tgt := 73) hx hb dX11_goes_205 (by decide) ?_
                  exact ih73 ls f_73 H locs z73 g73_gb_R (show 69 - z73.toInt < _ by omega) (lv_cons hl 2 rfl (lv_cons hl 3 rfl (lv_cons hl 4 rfl (lv_cons hl 5 rfl (lv_cons hl 6 rfl (lv_cons hl 7 rfl (lv_cons hl 8 rfl (lv_cons hl 0 rfl (lv_nil hl))))))))) h t_73 o_73 jv73_6 (iv_w iz73 (by decide)) k73_u0_14 k73_u0_6 k73_bq_R k73_u0_12 k73_u0_13 k73_ga_R k73_gb_R (show v52_4.toInt = (rb (10 * u1.toInt + 8).toNat).toInt ∧ v52_5.toInt = (rb (10 * u1.toInt + 9).toNat).toInt by omega) (show ((rb (10 * u1.toInt + 9).toNat).toInt - gn.toInt) ≤ z73.toInt ∧ ((rb (10 * u1.toInt + 8).toNat).toInt - gn.toInt) ≤ v52_6.toInt ∧ v52_6.toInt ≤ (rb (10 * u1.toInt + 8).toNat).toInt + gn.toInt by omega) (show z73.toInt ≤ (rb (10 * u1.toInt + 9).toNat).toInt + gn.toInt + 1 by omega) (show agr g73_gb_R (gY rb u1.toInt u2.toInt u3.toInt rg v52_6.toInt ((rb (10 * u1.toInt + 9).toNat).toInt - gn.toInt) (z73.toInt - ((rb (10 * u1.toInt + 9).toNat).toInt - gn.toInt)).toNat (gX rb u1.toInt u2.toInt u3.toInt rg ((rb (10 * u1.toInt + 8).toNat).toInt - gn.toInt) ((rb (10 * u1.toInt + 9).toNat).toInt - gn.toInt) (2 * gn.toInt + 1).toNat (v52_6.toInt - ((rb (10 * u1.toInt + 8).toNat).toInt - gn.toInt)).toNat (fun _ => 0))) from (by rw [gY_s (y := v73_7.toInt) (by omega) (by omega), if_neg (fun z_ => z_.2 (by rw [← cqr64, ← ew67]; exact Int64.toInt_inj.mp (by have n_ : (0 : Int64).toInt = 0 := rfl; omega)))]; exact hv73_3))
          refine lv_iload hx hb dX11_goes_52 (lv_at hl 6 rfl) ?_
          refine lv_iload hx hb dX11_goes_54 (lv_at hl 4 rfl) ?_
          refine lv_aload_n hx hb dX11_goes_56 rfl (lv_at hl 0 rfl) ?_
          refine t_getfd C h t_52 hu0 (by decide) wf_60 (v := .int gn) k52_u0_14 fl_X11_209 dX11_goes_57 ?_
          refine i_add hx hb dX11_goes_60 iv52_4 hgn (lo := 0) (hi := 68) (by decide) (fun z74 ez74 mz74 iz74 => ?_)
          refine lv_icmp_gt (tgt := 214) hx hb dX11_goes_61 (by decide) (fun c75 => ?_) (fun c75 => ?_)
          · have c76 : z74.toInt < v52_6.toInt := Int32.lt_iff_toInt_lt.mp c75
            have i77 : iv v52_6 1 69 := iv_Lr c76 iz74 iv52_6 (by decide)
            refine lv_aload_n hx hb dX11_goes_214 rfl (lv_at hl 0 rfl) ?_
            refine t_getfd C h t_52 hu0 (by decide) wf_60 (v := .ref ga) k52_u0_12 fl_X11_29 dX11_goes_215 ?_
            refine lv_astore (lv' := [(6, .ref ga), (0, .ref u0), (1, .int u1), (2, .int u2), (3, .int u3), (4, .int v52_4), (5, .int v52_5)]) hx hb dX11_goes_218 hl (by decide) rfl (fun ls hl => ?_)
            refine lv_aload_n hx hb dX11_goes_220 rfl (lv_at hl 1 rfl) ?_
            refine lv_aload_n hx hb dX11_goes_221 rfl (lv_at hl 1 rfl) ?_
            refine t_getfd C h t_52 hu0 (by decide) wf_60 (v := .ref gb) k52_u0_13 fl_X11_33 dX11_goes_222 ?_
            refine t_put C h t_52 o_52 hu0 (by decide) (by decide) (by decide) wf_60 fw_60 (k := 12) rfl flw_X11_29 (Or.inr ⟨_, _, _, rfl, rfl⟩) (v := .ref gb) rfl rfl ⟨_, rfl, hgb⟩ dX11_goes_225 (fun f80 H locs h tf80 of80 hq ha_ hn_ hk_ => ?_)
            have k81 := hk_ 14 _ (by decide) k52_u0_14
            have k82 := hk_ 6 _ (by decide) k52_u0_6
            have k83 := atp.tg k52_bq_R hq hbq (by decide)
            have k85 := hk_ 13 _ (by decide) k52_u0_13
            have k86 := atp.tg k52_ga_R hq hga (by decide)
            have k87 := atp.tg k52_gb_R hq hgb (by decide)
            have k88 := ha_
            refine lv_aload_n hx hb dX11_goes_228 rfl (lv_at hl 1 rfl) ?_
            refine lv_aload hx hb dX11_goes_229 (lv_at hl 0 rfl) ?_
            refine t_put C h tf80 of80 hu0 (by decide) (by decide) (by decide) wf_60 fw_60 (k := 13) rfl flw_X11_33 (Or.inr ⟨_, _, _, rfl, rfl⟩) (v := .ref ga) rfl rfl ⟨_, rfl, hga⟩ dX11_goes_231 (fun f89 H locs h tf89 of89 hq ha_ hn_ hk_ => ?_)
            have k90 := hk_ 14 _ (by decide) k81
            have k91 := hk_ 6 _ (by decide) k82
            have k92 := atp.tg k83 hq hbq (by decide)
            have k94 := atp.tg k86 hq hga (by decide)
            have k95 := atp.tg k87 hq hgb (by decide)
            have k96 := hk_ 12 _ (by decide) k88
            have k97 := ha_
            refine lv_aload_n hx hb dX11_goes_234 rfl (lv_at hl 1 rfl) ?_
            refine lv_dup hx hb dX11_goes_235 rfl ?_
            refine t_getfd C h tf89 hu0 (by decide) wf_60 (v := .int gn) k90 fl_X11_209 dX11_goes_236 ?_
            refine lv_iconst (v := 1) hx hb dX11_goes_239 (by decide) ?_
            refine i_addk hx hb dX11_goes_240 hgn (k := 1) rfl (lo := 1) (hi := 60) (by decide) (fun z98 ez98 mz98 iz98 => ?_)
            refine t_put C h tf89 of89 hu0 (by decide) (by decide) (by decide) wf_60 fw_60 (k := 14) rfl flw_X11_209 (Or.inr ⟨_, _, _, rfl, rfl⟩) (v := .int z98) rfl rfl ⟨_, rfl, (iv_w iz98 (by decide))⟩ dX11_goes_241 (fun f99 H locs h tf99 of99 hq ha_ hn_ hk_ => ?_)
            have k101 := hk_ 6 _ (by decide) k91
            have k102 := atp.tg k92 hq hbq (by decide)
            have k103 := atp.tg k94 hq hga (by decide)
            have k104 := atp.tg k95 hq hgb (by decide)
            have k105 := hk_ 12 _ (by decide) k96
            have k106 := hk_ 13 _ (by decide) k97
            have k107 := ha_
            exact u_vret C h hr hQ (⟨tf99, of99, ⟨gb, ga, g52_gb_R, rg, hab.symm, ⟨hgb, hga⟩, k105, k106, k104, k103, (by
                have h_ := hv52_3
                rw [show (v52_6.toInt - ((rb (10 * u1.toInt + 8).toNat).toInt - gn.toInt)).toNat = (2 * gn.toInt + 1).toNat by omega] at h_
                exact h_.tr (gof_c hag (agr.rf _)))⟩, ⟨z98, k107, iz98, (by omega)⟩⟩) (Nat.le_of_ble_eq_true rfl) (Nat.le_of_ble_eq_true rfl) dX11_goes_244
          · have c78 : v52_6.toInt ≤ z74.toInt := Int32.le_iff_toInt_le.mp (iv_nlt c75)
            have i79 : iv v52_6 (-59) 68 := iv_El c78 iv52_6 iz74 (by decide)
            refine lv_iload hx hb dX11_goes_64 (lv_at hl 5 rfl) ?_
            refine lv_aload_n hx hb dX11_goes_66 rfl (lv_at hl 0 rfl) ?_
            refine t_getfd C h t_52 hu0 (by decide) wf_60 (v := .int gn) k52_u0_14 fl_X11_209 dX11_goes_67 ?_
            refine i_sub hx hb dX11_goes_70 iv52_5 hgn (lo := (-59)) (hi := 9) (by decide) (fun z108 ez108 mz108 iz108 => ?_)
            refine lv_istore (lv' := [(7, .int z108), (0, .ref u0), (1, .int u1), (2, .int u2), (3, .int u3), (4, .int v52_4), (5, .int v52_5), (6, .int v52_6)]) hx hb dX11_goes_71 hl (by decide) rfl (fun ls hl => ?_)
            exact L73 129 ls f_52 H locs z108 g52_gb_R (show 69 - z108.toInt < _ by omega) (lv_cons hl 1 rfl (lv_cons hl 2 rfl (lv_cons hl 3 rfl (lv_cons hl 4 rfl (lv_cons hl 5 rfl (lv_cons hl 6 rfl (lv_cons hl 7 rfl (lv_cons hl 0 rfl (lv_nil hl))))))))) h t_52 o_52 i79 (iv_w iz108 (by decide)) k52_u0_14 k52_u0_6 k52_bq_R k52_u0_12 k52_u0_13 k52_ga_R k52_gb_R (show v52_4.toInt = (rb (10 * u1.toInt + 8).toNat).toInt ∧ v52_5.toInt = (rb (10 * u1.toInt + 9).toNat).toInt by omega) (show ((rb (10 * u1.toInt + 9).toNat).toInt - gn.toInt) ≤ z108.toInt ∧ ((rb (10 * u1.toInt + 8).toNat).toInt - gn.toInt) ≤ v52_6.toInt ∧ v52_6.toInt ≤ (rb (10 * u1.toInt + 8).toNat).toInt + gn.toInt by omega) (show z108.toInt ≤ (rb (10 * u1.toInt + 9).toNat).toInt + gn.toInt + 1 by omega) (show agr g52_gb_R (gY rb u1.toInt u2.toInt u3.toInt rg v52_6.toInt ((rb (10 * u1.toInt + 9).toNat).toInt - gn.toInt) (z108.toInt - ((rb (10 * u1.toInt + 9).toNat).toInt - gn.toInt)).toNat (gX rb u1.toInt u2.toInt u3.toInt rg ((rb (10 * u1.toInt + 8).toNat).toInt - gn.toInt) ((rb (10 * u1.toInt + 9).toNat).toInt - gn.toInt) (2 * gn.toInt + 1).toNat (v52_6.toInt - ((rb (10 * u1.toInt + 8).toNat).toInt - gn.toInt)).toNat (fun _ => 0))) from (by rw [show ((z108.toInt) - ((rb (10 * u1.toInt + 9).toNat).toInt - gn.toInt)).toNat = 0 by omega]; exact hv52_3))
      refine lv_iload hx hb dX11_goes_3 (lv_at hl 4 rfl) ?_
      refine lv_sipush (v := 19600) hx hb dX11_goes_5 (by decide) ?_
      refine lv_icmp_ge (tgt := 25) hx hb dX11_goes_8 (by decide) (fun c109 => ?_) (fun c109 => ?_)
      · have c110 : 19600 ≤ v3_4.toInt := Int32.le_iff_toInt_le.mp c109
        have i111 : iv v3_4 19600 19600 := iv_Er c110 (iv_k (x := 19600) (k := 19600) rfl) iv3_4 (by decide)
        refine lv_aload_n hx hb dX11_goes_25 rfl (lv_at hl 0 rfl) ?_
        refine lv_iload_n hx hb dX11_goes_26 rfl (lv_at hl 1 rfl) ?_
        refine lv_bipush (v := 8) hx hb dX11_goes_27 (by decide) ?_
        obtain ⟨_, r114⟩ := t_rec t_3 hu0 (by decide) wf_60
        refine k_i (r_V C h hl (As := [.int u1, .int 8]) (rest := []) (s_X11_weightOfX l D G b0 τ f_3 t_3 u0 hu0 u1 hu1 8 (iv_w (iv_k (x := 8) (k := 8) rfl) (by decide)) bq hbq k3_u0_6 rb k3_bq_R) r114 (Cn := RX11) (T := TX11) (N := 32) rfl rfl mk_X11_weightOf w_1631 w_1633 w_52 w_1634 ⟨Nat.le_of_ble_eq_true rfl, Nat.le_of_ble_eq_true rfl⟩ rfl (Nat.le_of_ble_eq_true rfl) ⟨Nat.le_of_ble_eq_true rfl, Nat.le_of_ble_eq_true rfl⟩ rfl dX11_goes_29) h (fun r115 f116 H locs p117 h => ?_)
        have n118 : (8 : Int32).toInt = 8 := rfl
        obtain ⟨ir115, tf116, ogf116, x0r115, x1r115⟩ := p117
        have x0r115 : r115 = (rb (10 * u1.toInt + 8).toNat) := x0r115
        have x1r115 : r115.toInt = (rb (10 * u1.toInt + 8).toNat).toInt := x1r115
        have egf116 := Fr.nil2 ogf116
        subst egf116
        have mx_ : r115.toInt = (rb (10 * u1.toInt + 8).toNat).toInt := x1r115
        refine lv_istore (lv' := [(4, .int r115), (0, .ref u0), (1, .int u1), (2, .int u2), (3, .int u3)]) hx hb dX11_goes_32 hl (by decide) rfl (fun ls hl => ?_)
        refine lv_aload_n hx hb dX11_goes_34 rfl (lv_at hl 1 rfl) ?_
        refine lv_iload_n hx hb dX11_goes_35 rfl (lv_at hl 2 rfl) ?_
        refine lv_bipush (v := 9) hx hb dX11_goes_36 (by decide) ?_
        obtain ⟨_, r119⟩ := t_rec t_3 hu0 (by decide) wf_60
        refine k_i (r_V C h hl (As := [.int u1, .int 9]) (rest := []) (s_X11_weightOfX l D G b0 τ f_3 t_3 u0 hu0 u1 hu1 9 (iv_w (iv_k (x := 9) (k := 9) rfl) (by decide)) bq hbq k3_u0_6 rb k3_bq_R) r119 (Cn := RX11) (T := TX11) (N := 32) rfl rfl mk_X11_weightOf w_1631 w_1633 w_52 w_1634 ⟨Nat.le_of_ble_eq_true rfl, Nat.le_of_ble_eq_true rfl⟩ rfl (Nat.le_of_ble_eq_true rfl) ⟨Nat.le_of_ble_eq_true rfl, Nat.le_of_ble_eq_true rfl⟩ rfl dX11_goes_38) h (fun r120 f121 H locs p122 h => ?_)
        have n123 : (9 : Int32).toInt = 9 := rfl
        obtain ⟨ir120, tf121, ogf121, x0r120, x1r120⟩ := p122
        have x0r120 : r120 = (rb (10 * u1.toInt + 9).toNat) := x0r120
        have x1r120 : r120.toInt = (rb (10 * u1.toInt + 9).toNat).toInt := x1r120
        have egf121 := Fr.nil2 ogf121
        subst egf121
        have my_ : r120.toInt = (rb (10 * u1.toInt + 9).toNat).toInt := x1r120
        refine lv_istore (lv' := [(5, .int r120), (4, .int r115), (0, .ref u0), (1, .int u1), (2, .int u2), (3, .int u3)]) hx hb dX11_goes_41 hl (by decide) rfl (fun ls hl => ?_)
        refine lv_iload hx hb dX11_goes_43 (lv_at hl 1 rfl) ?_
        refine lv_aload_n hx hb dX11_goes_45 rfl (lv_at hl 2 rfl) ?_
        refine t_getfd C h t_3 hu0 (by decide) wf_60 (v := .int gn) k3_u0_14 fl_X11_209 dX11_goes_46 ?_
        refine i_sub hx hb dX11_goes_49 ir115 hgn (lo := (-59)) (hi := 9) (by decide) (fun z124 ez124 mz124 iz124 => ?_)
        refine lv_istore (lv' := [(6, .int z124), (5, .int r120), (4, .int r115), (0, .ref u0), (1, .int u1), (2, .int u2), (3, .int u3)]) hx hb dX11_goes_50 hl (by decide) rfl (fun ls hl => ?_)
        exact L52 129 ls f_3 H locs r115 r120 z124 g3_gb_R (show 69 - z124.toInt < _ by omega) (lv_cons hl 3 rfl (lv_cons hl 4 rfl (lv_cons hl 5 rfl (lv_cons hl 6 rfl (lv_cons hl 2 rfl (lv_cons hl 1 rfl (lv_cons hl 0 rfl (lv_nil hl)))))))) h t_3 o_3 ir115 ir120 (iv_w iz124 (by decide)) k3_u0_14 k3_u0_6 k3_bq_R k3_u0_12 k3_u0_13 k3_ga_R k3_gb_R (show r115.toInt = (rb (10 * u1.toInt + 8).toNat).toInt ∧ r120.toInt = (rb (10 * u1.toInt + 9).toNat).toInt by omega) (show ((rb (10 * u1.toInt + 8).toNat).toInt - gn.toInt) ≤ z124.toInt by omega) (show z124.toInt ≤ (rb (10 * u1.toInt + 8).toNat).toInt + gn.toInt + 1 by omega) (show agr g3_gb_R (gX rb u1.toInt u2.toInt u3.toInt rg ((rb (10 * u1.toInt + 8).toNat).toInt - gn.toInt) ((rb (10 * u1.toInt + 9).toNat).toInt - gn.toInt) (2 * gn.toInt + 1).toNat (z124.toInt - ((rb (10 * u1.toInt + 8).toNat).toInt - gn.toInt)).toNat (fun _ => 0)) from (by rw [show ((z124.toInt) - ((rb (10 * u1.toInt + 8).toNat).toInt - gn.toInt)).toNat = 0 by omega]; exact fun k hk => by rw [hv3_0 k, if_pos (by omega)]; rfl))
      · have c112 : v3_4.toInt < 19600 := Int32.lt_iff_toInt_lt.mp (iv_nle c109)
        have i113 : iv v3_4 0 19599 := iv_Ll c112 iv3_4 (iv_k (x := 19600) (k := 19600) rfl) (by decide)
        refine lv_aload_n hx hb dX11_goes_11 rfl (lv_at hl 0 rfl) ?_
        refine t_getfd C h t_3 hu0 (by decide) wf_60 (v := .ref gb) k3_u0_13 fl_X11_33 dX11_goes_12 ?_
        refine lv_iload hx hb dX11_goes_15 (lv_at hl 4 rfl) ?_
        refine lv_lconst (v := 0) hx hb dX11_goes_17 (by decide) ?_
        refine e_last C h t_3 o_3 hgb (by decide) (by decide) wf_67 fw_67 k3_gb_R (x := 0) (iv_in i113 (by decide)) dX11_goes_18 (fun R127 f125 erR127 H locs h tf125 of125 hq hn_ k126 => ?_)
        have k128 := atp.tg k3_u0_14 hq hu0 (by decide)
        have k129 := atp.tg k3_u0_6 hq hu0 (by decide)
        have k130 := atp.tg k3_bq_R hq hbq (by decide)
        have k131 := atp.tg k3_u0_12 hq hu0 (by decide)
        have k132 := atp.tg k3_u0_13 hq hu0 (by decide)
        have k133 := atp.tr k3_ga_R (hn_ ga hab)
        refine i_inc hx hb dX11_goes_19 hl (k := 4) rfl i113 rfl (lo := 1) (hi := 19600) (by decide) (by decide) (lv' := fun v => [(4, .int v), (0, .ref u0), (1, .int u1), (2, .int u2), (3, .int u3)]) (fun _ => rfl) (fun z135 ls ez135 mz135 iz135 hl => ?_)
        refine lv_goto (tgt := 3) hx hb dX11_goes_22 (by decide) ?_
        exact ih3 ls f125 H locs z135 R127 (show 19600 - z135.toInt < _ by omega) (lv_cons hl 1 rfl (lv_cons hl 2 rfl (lv_cons hl 3 rfl (lv_cons hl 4 rfl (lv_cons hl 0 rfl (lv_nil hl)))))) h tf125 of125 (iv_w iz135 (by decide)) k128 k129 k130 k131 k132 k133 k126 (show ∀ k : Nat, R127 k = if (k : Int) < z135.toInt then 0 else rh k from (by
            intro k; rw [erR127]; by_cases q_ : k = v3_4.toInt.toNat
            · rw [updL_at q_]; (repeat' split) <;> first | rfl | (exfalso; omega)
            · rw [updL_off q_, hv3_0 k]; (repeat' split) <;> first | rfl | (exfalso; omega)))
  refine lv_iconst (v := 0) hx hb dX11_goes_0 (by decide) ?_
  refine lv_istore (lv' := [(4, .int 0), (0, .ref u0), (1, .int u1), (2, .int u2), (3, .int u3)]) hx hb dX11_goes_1 hl (by decide) rfl (fun ls hl => ?_)
  exact L3 19601 ls f s.heap [] 0 rh (by decide) (lv_cons hl 1 rfl (lv_cons hl 2 rfl (lv_cons hl 3 rfl (lv_cons hl 4 rfl (lv_cons hl 0 rfl (lv_nil hl)))))) h t o ⟨by decide, by decide⟩ k_u0_14 k_u0_6 hRbq k_u0_12 k_u0_13 hRga hRgb (show ∀ k : Nat, rh k = if (k : Int) < 0 then 0 else rh k from (by
      intro k; (repeat' split) <;> first | rfl | (exfalso; omega)))
