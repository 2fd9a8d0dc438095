
abbrev rm_s_X11_laysOrbitX : Room := { frames := 5, cells := 0, slots := 0, locals := 129 }
set_option maxRecDepth 100000 in
set_option maxHeartbeats 4000000 in
theorem s_X11_laysOrbitX (l : Launch) (D : va_G) (G : Nat → Nat) (b0 : Nat) (τ : Nat → Nat) (f : hM) (t : TI G 9 τ f) (u0 : Nat) (hu0 : τ u0 = 60) (u1 : Int32) (hu1 : iv u1 0 7) (u2 : Int32) (hu2 : iv u2 0 1000002) (u3 : Int32) (hu3 : iv u3 0 1000002) (bq : Nat) (hbq : τ bq = 63) (k_u0_6 : atp f u0 (fd 6 (.ref bq))) (oq : Nat) (hoq : τ oq = 71) (k_u0_20 : atp f u0 (fd 20 (.ref oq))) (pq : Nat) (hpq : τ pq = 81) (k_u0_21 : atp f u0 (fd 21 (.ref pq))) (rb : Nat → Int32) (hRbq : atp f bq (eqc (.inl (G 1, 81, .inl rb)))) (ro : Nat → Int32) (hRoq : atp f oq (eqc (.inl (G 1, 41, .inl ro)))) (rp : Nat → Int32) (hRpq : atp f pq (eqc (.inl (G 1, 41, .inl rp)))) : mI l yX11_laysOrbit cX11_laysOrbit 7 (.int) rm_s_X11_laysOrbitX D G b0 f [.ref u0, .int u1, .int u2, .int u3] (fun r f1 => iv r (-1) 40 ∧ TI G 9 τ f1 ∧ Fr [71, 81] τ f f1 ∧ (r.toInt = OG (fun k : Int => (rb (10 * u1.toInt + k).toNat).toInt) u2.toInt u3.toInt) ∧ (∃ (ro1 : Nat → Int32) (rp1 : Nat → Int32), atp f1 oq (eqc (.inl (G 1, 41, .inl ro1))) ∧ atp f1 pq (eqc (.inl (G 1, 41, .inl rp1))) ∧ (r.toInt ≠ -1 → RC (fun k : Int => (rb (10 * u1.toInt + k).toNat).toInt) u2.toInt u3.toInt r.toInt ro1 rp1))) := by
  refine met2 (own := RX11) (by decide) rfl (Nat.le_of_ble_eq_true rfl) ?_
  intro p e s m args below meth c ls Q hQ C hr hini hl h
  have hl : lv_has ls 7 [(0, .ref u0), (1, .int u1), (2, .int u2), (3, .int u3)] := hl
  obtain ⟨hx, hb, hml, hown, hts, hE0, hlk⟩ := id C
  have o := Fr.rf [71, 81] τ f
  have L17 : ∀ (n17 : Nat) (ls : Array Slot) (f_17 : hM) (H : Heap) (locs : List Loc) (v17_4 : Int32) (g17_oq_R : Nat → Int32) (g17_pq_R : Nat → Int32), 41 - v17_4.toInt < (n17 : Int) → lv_has ls 7 [(0, .ref u0), (1, .int u1), (2, .int u2), (3, .int u3), (4, .int v17_4)] → hw D b0 s.heap f_17 H locs → TI G 9 τ f_17 → Fr [71, 81] τ f f_17 → iv v17_4 1 41 → atp f_17 u0 (fd 6 (.ref bq)) → atp f_17 u0 (fd 20 (.ref oq)) → atp f_17 u0 (fd 21 (.ref pq)) → atp f_17 bq (eqc (.inl (G 1, 81, .inl rb))) → atp f_17 oq (eqc (.inl (G 1, 41, .inl g17_oq_R))) → atp f_17 pq (eqc (.inl (G 1, 41, .inl g17_pq_R))) → (((v17_4.toInt - 1) % 2 = 0 → OS (fun k : Int => (rb (10 * u1.toInt + k).toNat).toInt) u2.toInt u3.toInt (v17_4.toInt - 1)) ∧ ((v17_4.toInt - 1) % 2 = 1 → OH (fun k : Int => (rb (10 * u1.toInt + k).toNat).toInt) u2.toInt u3.toInt (v17_4.toInt - 1))) → (RC (fun k : Int => (rb (10 * u1.toInt + k).toNat).toInt) u2.toInt u3.toInt v17_4.toInt g17_oq_R g17_pq_R) → W p l e rm_s_X11_laysOrbitX s m args below meth c H locs 0 0 Q (F0 m 17 ls []) := by
    intro n17
    induction n17 with
    | zero => intro ls f_17 H locs v17_4 g17_oq_R g17_pq_R hm17 hl h t_17 o_17 iv17_4 k17_u0_6 k17_u0_20 k17_u0_21 k17_bq_R k17_oq_R k17_pq_R hv17_0 hv17_1; exact absurd hm17 (by omega)
    | succ n17 ih17 =>
      intro ls f_17 H locs v17_4 g17_oq_R g17_pq_R hm17 hl h t_17 o_17 iv17_4 k17_u0_6 k17_u0_20 k17_u0_21 k17_bq_R k17_oq_R k17_pq_R hv17_0 hv17_1
      refine lv_iload hx hb dX11_laysOrbit_17 (lv_at hl 4 rfl) ?_
      refine lv_bipush (v := 40) hx hb dX11_laysOrbit_19 (by decide) ?_
      refine lv_icmp_gt (tgt := 157) hx hb dX11_laysOrbit_21 (by decide) (fun c1 => ?_) (fun c1 => ?_)
      · have c2 : 40 < v17_4.toInt := Int32.lt_iff_toInt_lt.mp c1
        have i3 : iv v17_4 41 41 := iv_Lr c2 (iv_k (x := 40) (k := 40) rfl) iv17_4 (by decide)
        refine lv_iconst (v := -1) hx hb dX11_laysOrbit_157 (by decide) ?_
        exact u_iret C h hr hQ (⟨⟨by decide, by decide⟩, t_17, o_17, (os_end (hv17_0.1 (by omega)) (by omega)).symm, ⟨g17_oq_R, g17_pq_R, k17_oq_R, k17_pq_R, (fun z_ => absurd rfl z_)⟩⟩) (Nat.le_of_ble_eq_true rfl) (Nat.le_of_ble_eq_true rfl) dX11_laysOrbit_158
      · have c4 : v17_4.toInt ≤ 40 := Int32.le_iff_toInt_le.mp (iv_nlt c1)
        have i5 : iv v17_4 1 40 := iv_El c4 iv17_4 (iv_k (x := 40) (k := 40) rfl) (by decide)
        refine lv_iload hx hb dX11_laysOrbit_24 (lv_at hl 4 rfl) ?_
        refine lv_iconst (v := 1) hx hb dX11_laysOrbit_26 (by decide) ?_
        refine i_subk hx hb dX11_laysOrbit_27 i5 (k := 1) rfl (lo := 0) (hi := 39) (by decide) (fun z6 ez6 mz6 iz6 => ?_)
        refine lv_iconst (v := 2) hx hb dX11_laysOrbit_28 (by decide) ?_
        refine lv_irem hx hb dX11_laysOrbit_29 (by decide) (i_topm (P := fun q_ => q_ = Int32.toInt z6 % 2) (iv_remx (k := 2) (iv_w iz6 (by decide) : iv _ 0 39) rfl (by decide)) (fun z7 ez7 mz7 iz7 => ?_))
        refine lv_istore (lv' := [(5, .int z7), (0, .ref u0), (1, .int u1), (2, .int u2), (3, .int u3), (4, .int v17_4)]) hx hb dX11_laysOrbit_30 hl (by decide) rfl (fun ls hl => ?_)
        refine lv_aload_n hx hb dX11_laysOrbit_32 rfl (lv_at hl 1 rfl) ?_
        refine lv_iload_n hx hb dX11_laysOrbit_33 rfl (lv_at hl 2 rfl) ?_
        refine lv_aload_n hx hb dX11_laysOrbit_34 rfl (lv_at hl 1 rfl) ?_
        refine t_getfd C h t_17 hu0 (by decide) wf_60 (v := .ref oq) k17_u0_20 fl_X11_48 dX11_laysOrbit_35 ?_
        refine lv_iload hx hb dX11_laysOrbit_38 (lv_at hl 5 rfl) ?_
        refine lv_iconst (v := 1) hx hb dX11_laysOrbit_40 (by decide) ?_
        refine i_subk hx hb dX11_laysOrbit_41 i5 (k := 1) rfl (lo := 0) (hi := 39) (by decide) (fun z8 ez8 mz8 iz8 => ?_)
        refine e_iald C h t_17 hoq (by decide) wf_71 k17_oq_R (iv_in iz8 (by decide)) dX11_laysOrbit_42 (fun z9 ez9 iz9 => ?_)
        have mz9 := congrArg Int32.toInt ez9
        have qz9_ := (rc_at hv17_1 (j := z8.toInt.toNat) (i := v17_4.toInt - 1) (by omega) (by omega)).1
        have pz9 : z9.toInt = PX (fun k : Int => (rb (10 * u1.toInt + k).toNat).toInt) u2.toInt u3.toInt (v17_4.toInt - 1) := by rw [ez9]; exact qz9_.1
        have bz9 : iv z9 0 1000002 := ⟨by omega, by omega⟩
        refine lv_aload_n hx hb dX11_laysOrbit_43 rfl (lv_at hl 1 rfl) ?_
        refine t_getfd C h t_17 hu0 (by decide) wf_60 (v := .ref pq) k17_u0_21 fl_X11_51 dX11_laysOrbit_44 ?_
        refine lv_iload hx hb dX11_laysOrbit_47 (lv_at hl 5 rfl) ?_
        refine lv_iconst (v := 1) hx hb dX11_laysOrbit_49 (by decide) ?_
        refine i_subk hx hb dX11_laysOrbit_50 i5 (k := 1) rfl (lo := 0) (hi := 39) (by decide) (fun z10 ez10 mz10 iz10 => ?_)
        refine e_iald C h t_17 hpq (by decide) wf_81 k17_pq_R (iv_in iz10 (by decide)) dX11_laysOrbit_51 (fun z11 ez11 iz11 => ?_)
        have mz11 := congrArg Int32.toInt ez11
        have qz11_ := (rc_at hv17_1 (j := z10.toInt.toNat) (i := v17_4.toInt - 1) (by omega) (by omega)).2
        have pz11 : z11.toInt = PY (fun k : Int => (rb (10 * u1.toInt + k).toNat).toInt) u2.toInt u3.toInt (v17_4.toInt - 1) := by rw [ez11]; exact qz11_.1
        have bz11 : iv z11 0 1000002 := ⟨by omega, by omega⟩
        refine lv_iload hx hb dX11_laysOrbit_52 (lv_at hl 0 rfl) ?_
        obtain ⟨_, r12⟩ := t_rec t_17 hu0 (by decide) wf_60
        refine k_i (r_V C h hl (As := [.int u1, .int z9, .int z11, .int z7]) (rest := []) (s_X11_turnsX l D G b0 τ f_17 t_17 u0 hu0 u1 hu1 z9 bz9 z11 bz11 z7 iz7 bq hbq k17_u0_6 rb k17_bq_R) r12 (Cn := RX11) (T := TX11) (N := 32) rfl rfl mk_X11_turns w_1879 w_1881 w_71 w_1882 ⟨Nat.le_of_ble_eq_true rfl, Nat.le_of_ble_eq_true rfl⟩ rfl (Nat.le_of_ble_eq_true rfl) ⟨Nat.le_of_ble_eq_true rfl, Nat.le_of_ble_eq_true rfl⟩ rfl dX11_laysOrbit_54) h (fun r13 f14 H locs p15 h => ?_)
        obtain ⟨ir13, tf14, ogf14, x0r13⟩ := p15
        have egf14 := Fr.nil2 ogf14
        subst egf14
        have hS_ : (v17_4.toInt - 1) % 2 = 0 → _ := fun z_ => os_x (hv17_0.1 z_) (j := v17_4.toInt) (cx := z9.toInt) (cy := z11.toInt) (nx := r13.toInt) (by omega) (by omega) pz9 pz11 (by rw [x0r13]; unfold tw_; rw [if_pos (by omega)])
        have hT_ : (v17_4.toInt - 1) % 2 = 1 → _ := fun z_ => oh_x (hv17_0.2 z_) (j := v17_4.toInt) (cx := z9.toInt) (cy := z11.toInt) (ny := r13.toInt) (by omega) pz9 pz11 (by rw [x0r13]; unfold tw_; rw [if_neg (by omega)])
        refine lv_istore (lv' := [(6, .int r13), (5, .int z7), (0, .ref u0), (1, .int u1), (2, .int u2), (3, .int u3), (4, .int v17_4)]) hx hb dX11_laysOrbit_57 hl (by decide) rfl (fun ls hl => ?_)
        refine lv_iload hx hb dX11_laysOrbit_59 (lv_at hl 0 rfl) ?_
        refine lv_iconst (v := -1) hx hb dX11_laysOrbit_61 (by decide) ?_
        refine lv_icmp_ne (tgt := 67) hx hb dX11_laysOrbit_62 (by decide) (fun c16 => ?_) (fun c16 => ?_)
        · have c17 : r13.toInt ≠ (-1) := fun z_ => c16 (Int32.toInt_inj.mp z_)
          have i18 : iv r13 0 1000002 := iv_Nl c17 ir13 (by decide)
          refine lv_aload_n hx hb dX11_laysOrbit_67 rfl (lv_at hl 2 rfl) ?_
          refine t_getfd C h t_17 hu0 (by decide) wf_60 (v := .ref oq) k17_u0_20 fl_X11_48 dX11_laysOrbit_68 ?_
          refine lv_iload hx hb dX11_laysOrbit_71 (lv_at hl 6 rfl) ?_
          refine lv_iload hx hb dX11_laysOrbit_73 (lv_at hl 1 rfl) ?_
          refine lv_if_ne (tgt := 83) hx hb dX11_laysOrbit_75 (by decide) (fun c21 => ?_) (fun c21 => ?_)
          · have c22 : z7.toInt ≠ 0 := fun z_ => c21 (Int32.toInt_inj.mp z_)
            have i23 : iv z7 1 1 := iv_Nl c22 iz7 (by decide)
            refine lv_aload_n hx hb dX11_laysOrbit_83 rfl (lv_at hl 2 rfl) ?_
            refine t_getfd C h t_17 hu0 (by decide) wf_60 (v := .ref oq) k17_u0_20 fl_X11_48 dX11_laysOrbit_84 ?_
            refine lv_iload hx hb dX11_laysOrbit_87 (lv_at hl 6 rfl) ?_
            refine lv_iconst (v := 1) hx hb dX11_laysOrbit_89 (by decide) ?_
            refine i_subk hx hb dX11_laysOrbit_90 i5 (k := 1) rfl (lo := 0) (hi := 39) (by decide) (fun z26 ez26 mz26 iz26 => ?_)
            refine e_iald C h t_17 hoq (by decide) wf_71 k17_oq_R (iv_in iz26 (by decide)) dX11_laysOrbit_91 (fun z27 ez27 iz27 => ?_)
            have mz27 := congrArg Int32.toInt ez27
            have qz27_ := (rc_at hv17_1 (j := z26.toInt.toNat) (i := v17_4.toInt - 1) (by omega) (by omega)).1
            have pz27 : z27.toInt = PX (fun k : Int => (rb (10 * u1.toInt + k).toNat).toInt) u2.toInt u3.toInt (v17_4.toInt - 1) := by rw [ez27]; exact qz27_.1
            have bz27 : iv z27 0 1000002 := ⟨by omega, by omega⟩
            refine e_iast C h t_17 o_17 hoq (by decide) (by decide) wf_71 fw_71 k17_oq_R (iv_in i5 (by decide)) (iv_w bz27 (by decide)) dX11_laysOrbit_92 (fun R30 f28 erR30 H locs h tf28 of28 hq hn_ k29 => ?_)
            have k31 := atp.tg k17_u0_6 hq hu0 (by decide)
            have k32 := atp.tg k17_u0_20 hq hu0 (by decide)
            have k33 := atp.tg k17_u0_21 hq hu0 (by decide)
            have k34 := atp.tg k17_bq_R hq hbq (by decide)
            have k36 := atp.tg k17_pq_R hq hpq (by decide)
            refine lv_aload_n hx hb dX11_laysOrbit_93 rfl (lv_at hl 2 rfl) ?_
            refine t_getfd C h tf28 hu0 (by decide) wf_60 (v := .ref pq) k33 fl_X11_51 dX11_laysOrbit_94 ?_
            refine lv_iload hx hb dX11_laysOrbit_97 (lv_at hl 6 rfl) ?_
            refine lv_iload hx hb dX11_laysOrbit_99 (lv_at hl 1 rfl) ?_
            refine lv_iconst (v := 1) hx hb dX11_laysOrbit_101 (by decide) ?_
            refine lv_icmp_ne (tgt := 110) hx hb dX11_laysOrbit_102 (by decide) (fun c37 => ?_) (fun c37 => ?_)
            · have c38 : z7.toInt ≠ 1 := fun z_ => c37 (Int32.toInt_inj.mp z_)
              exact (iv_cn_ c38 i23 (iv_k (x := 1) (k := 1) rfl) (by decide)).elim
            · have c39 : z7.toInt = 1 := congrArg Int32.toInt c37
              refine lv_iload hx hb dX11_laysOrbit_105 (lv_at hl 0 rfl) ?_
              refine lv_goto (tgt := 119) hx hb dX11_laysOrbit_107 (by decide) ?_
              refine e_iast C h tf28 of28 hpq (by decide) (by decide) wf_81 fw_81 k36 (iv_in i5 (by decide)) (iv_w i18 (by decide)) dX11_laysOrbit_119 (fun R42 f40 erR42 H locs h tf40 of40 hq hn_ k41 => ?_)
              have k43 := atp.tg k31 hq hu0 (by decide)
              have k44 := atp.tg k32 hq hu0 (by decide)
              have k45 := atp.tg k33 hq hu0 (by decide)
              have k46 := atp.tg k34 hq hbq (by decide)
              have k48 := atp.tg k29 hq hoq (by decide)
              refine lv_iload hx hb dX11_laysOrbit_120 (lv_at hl 1 rfl) ?_
              refine lv_iconst (v := 1) hx hb dX11_laysOrbit_122 (by decide) ?_
              refine lv_icmp_ne (tgt := 151) hx hb dX11_laysOrbit_123 (by decide) (fun c49 => ?_) (fun c49 => ?_)
              · have c50 : z7.toInt ≠ 1 := fun z_ => c49 (Int32.toInt_inj.mp z_)
                exact (iv_cn_ c50 i23 (iv_k (x := 1) (k := 1) rfl) (by decide)).elim
              · have c51 : z7.toInt = 1 := congrArg Int32.toInt c49
                refine lv_aload_n hx hb dX11_laysOrbit_126 rfl (lv_at hl 2 rfl) ?_
                refine t_getfd C h tf40 hu0 (by decide) wf_60 (v := .ref oq) k44 fl_X11_48 dX11_laysOrbit_127 ?_
                refine lv_iload hx hb dX11_laysOrbit_130 (lv_at hl 6 rfl) ?_
                refine e_iald C h tf40 hoq (by decide) wf_71 k48 (iv_in i5 (by decide)) dX11_laysOrbit_132 (fun z52 ez52 iz52 => ?_)
                have mz52 := congrArg Int32.toInt ez52
                have moz52 : z52.toInt = z27.toInt := by rw [ez52, erR30, upd_at (by omega)]
                refine lv_iload_n hx hb dX11_laysOrbit_133 rfl (lv_at hl 4 rfl) ?_
                refine lv_icmp_ne (tgt := 151) hx hb dX11_laysOrbit_134 (by decide) (fun c53 => ?_) (fun c53 => ?_)
                · have c54 : z52.toInt ≠ u2.toInt := fun z_ => c53 (Int32.toInt_inj.mp z_)
                  refine i_inc hx hb dX11_laysOrbit_151 hl (k := 6) rfl i5 rfl (lo := 2) (hi := 41) (by decide) (by decide) (lv' := fun v => [(4, .int v), (6, .int r13), (5, .int z7), (0, .ref u0), (1, .int u1), (2, .int u2), (3, .int u3)]) (fun _ => rfl) (fun z57 ls ez57 mz57 iz57 hl => ?_)
                  refine lv_goto (tgt := 17) hx hb dX11_laysOrbit_154 (by decide) ?_
                  exact ih17 ls f40 H locs z57 R30 R42 (show 41 - z57.toInt < _ by omega) (lv_cons hl 3 rfl (lv_cons hl 4 rfl (lv_cons hl 5 rfl (lv_cons hl 6 rfl (lv_cons hl 0 rfl (lv_nil hl)))))) h tf40 of40 (iv_w iz57 (by decide)) k43 k44 k45 k46 k48 k41 (show ((z57.toInt - 1) % 2 = 0 → OS (fun k : Int => (rb (10 * u1.toInt + k).toNat).toInt) u2.toInt u3.toInt (z57.toInt - 1)) ∧ ((z57.toInt - 1) % 2 = 1 → OH (fun k : Int => (rb (10 * u1.toInt + k).toNat).toInt) u2.toInt u3.toInt (z57.toInt - 1)) from (by
                      rw [show z57.toInt - 1 = v17_4.toInt by omega]
                      refine ⟨fun z_ => ?_, fun z_ => ?_⟩
                      · first | (exfalso; omega) | exact (hT_ (by omega)).2.2.2.2 (by omega) (by omega)
                      · first | (exfalso; omega) | exact (hS_ (by omega)).2.2.2 (by omega))) (show RC (fun k : Int => (rb (10 * u1.toInt + k).toNat).toInt) u2.toInt u3.toInt z57.toInt R30 R42 from (by
                      have h_ : RC (fun k : Int => (rb (10 * u1.toInt + k).toNat).toInt) u2.toInt u3.toInt (v17_4.toInt + 1) R30 R42 := by
                        rcases (show (v17_4.toInt - 1) % 2 = 0 ∨ (v17_4.toInt - 1) % 2 = 1 by omega) with z_ | z_
                        · first | (exfalso; omega) | (obtain ⟨s1_, s2_, -⟩ := hS_ z_; exact rc_s hv17_1 erR30 erR42 (by omega) (by omega) ⟨by omega, by omega, by omega⟩ ⟨by omega, by omega, by omega⟩)
                        · first | (exfalso; omega) | (obtain ⟨s1_, s2_, -⟩ := hT_ z_; exact rc_s hv17_1 erR30 erR42 (by omega) (by omega) ⟨by omega, by omega, by omega⟩ ⟨by omega, by omega, by omega⟩)
                      rw [show z57.toInt = v17_4.toInt + 1 by omega]; exact h_))
                · have c55 : z52.toInt = u2.toInt := congrArg Int32.toInt c53
                  have i56 : iv z52 0 1000002 := iv_Q c55 iz52 hu2 (by decide)
                  refine lv_aload_n hx hb dX11_laysOrbit_137 rfl (lv_at hl 2 rfl) ?_
                  refine t_getfd C h tf40 hu0 (by decide) wf_60 (v := .ref pq) k45 fl_X11_51 dX11_laysOrbit_138 ?_
                  refine lv_iload hx hb dX11_laysOrbit_141 (lv_at hl 6 rfl) ?_
                  refine e_iald C h tf40 hpq (by decide) wf_81 k41 (iv_in i5 (by decide)) dX11_laysOrbit_143 (fun z58 ez58 iz58 => ?_)
                  have mz58 := congrArg Int32.toInt ez58
                  have moz58 : z58.toInt = r13.toInt := by rw [ez58, erR42, upd_at (by omega)]
                  refine lv_iload_n hx hb dX11_laysOrbit_144 rfl (lv_at hl 5 rfl) ?_
                  refine lv_icmp_ne (tgt := 151) hx hb dX11_laysOrbit_145 (by decide) (fun c59 => ?_) (fun c59 => ?_)
                  · have c60 : z58.toInt ≠ u3.toInt := fun z_ => c59 (Int32.toInt_inj.mp z_)
                    refine i_inc hx hb dX11_laysOrbit_151 hl (k := 6) rfl i5 rfl (lo := 2) (hi := 41) (by decide) (by decide) (lv' := fun v => [(4, .int v), (6, .int r13), (5, .int z7), (0, .ref u0), (1, .int u1), (2, .int u2), (3, .int u3)]) (fun _ => rfl) (fun z63 ls ez63 mz63 iz63 hl => ?_)
                    refine lv_goto (tgt := 17) hx hb dX11_laysOrbit_154 (by decide) ?_
                    exact ih17 ls f40 H locs z63 R30 R42 (show 41 - z63.toInt < _ by omega) (lv_cons hl 3 rfl (lv_cons hl 4 rfl (lv_cons hl 5 rfl (lv_cons hl 6 rfl (lv_cons hl 0 rfl (lv_nil hl)))))) h tf40 of40 (iv_w iz63 (by decide)) k43 k44 k45 k46 k48 k41 (show ((z63.toInt - 1) % 2 = 0 → OS (fun k : Int => (rb (10 * u1.toInt + k).toNat).toInt) u2.toInt u3.toInt (z63.toInt - 1)) ∧ ((z63.toInt - 1) % 2 = 1 → OH (fun k : Int => (rb (10 * u1.toInt + k).toNat).toInt) u2.toInt u3.toInt (z63.toInt - 1)) from (by
                        rw [show z63.toInt - 1 = v17_4.toInt by omega]
                        refine ⟨fun z_ => ?_, fun z_ => ?_⟩
                        · first | (exfalso; omega) | exact (hT_ (by omega)).2.2.2.2 (by omega) (by omega)
                        · first | (exfalso; omega) | exact (hS_ (by omega)).2.2.2 (by omega))) (show RC (fun k : Int => (rb (10 * u1.toInt + k).toNat).toInt) u2.toInt u3.toInt z63.toInt R30 R42 from (by
                        have h_ : RC (fun k : Int => (rb (10 * u1.toInt + k).toNat).toInt) u2.toInt u3.toInt (v17_4.toInt + 1) R30 R42 := by
                          rcases (show (v17_4.toInt - 1) % 2 = 0 ∨ (v17_4.toInt - 1) % 2 = 1 by omega) with z_ | z_
                          · first | (exfalso; omega) | (obtain ⟨s1_, s2_, -⟩ := hS_ z_; exact rc_s hv17_1 erR30 erR42 (by omega) (by omega) ⟨by omega, by omega, by omega⟩ ⟨by omega, by omega, by omega⟩)
                          · first | (exfalso; omega) | (obtain ⟨s1_, s2_, -⟩ := hT_ z_; exact rc_s hv17_1 erR30 erR42 (by omega) (by omega) ⟨by omega, by omega, by omega⟩ ⟨by omega, by omega, by omega⟩)
                        rw [show z63.toInt = v17_4.toInt + 1 by omega]; exact h_))
                  · have c61 : z58.toInt = u3.toInt := congrArg Int32.toInt c59
                    have i62 : iv z58 0 1000002 := iv_Q c61 iz58 hu3 (by decide)
                    refine lv_iload hx hb dX11_laysOrbit_148 (lv_at hl 6 rfl) ?_
                    exact u_iret C h hr hQ (⟨(iv_w i5 (by decide)), tf40, of40, ((hT_ (by omega)).2.2.2.1 (by omega) (by omega) (by omega)).symm, ⟨R30, R42, k48, k41, (fun _ => by
                        have h_ : RC (fun k : Int => (rb (10 * u1.toInt + k).toNat).toInt) u2.toInt u3.toInt (v17_4.toInt + 1) R30 R42 := by
                          rcases (show (v17_4.toInt - 1) % 2 = 0 ∨ (v17_4.toInt - 1) % 2 = 1 by omega) with z_ | z_
                          · first | (exfalso; omega) | (obtain ⟨s1_, s2_, -⟩ := hS_ z_; exact rc_s hv17_1 erR30 erR42 (by omega) (by omega) ⟨by omega, by omega, by omega⟩ ⟨by omega, by omega, by omega⟩)
                          · first | (exfalso; omega) | (obtain ⟨s1_, s2_, -⟩ := hT_ z_; exact rc_s hv17_1 erR30 erR42 (by omega) (by omega) ⟨by omega, by omega, by omega⟩ ⟨by omega, by omega, by omega⟩)
                        exact rc_le h_ (by omega))⟩⟩) (Nat.le_of_ble_eq_true rfl) (Nat.le_of_ble_eq_true rfl) dX11_laysOrbit_150
          · have c24 : z7.toInt = 0 := congrArg Int32.toInt c21
            have i25 : iv z7 0 0 := iv_Q c24 iz7 (iv_k (x := 0) (k := 0) rfl) (by decide)
            refine lv_iload hx hb dX11_laysOrbit_78 (lv_at hl 0 rfl) ?_
            refine lv_goto (tgt := 92) hx hb dX11_laysOrbit_80 (by decide) ?_
            refine e_iast C h t_17 o_17 hoq (by decide) (by decide) wf_71 fw_71 k17_oq_R (iv_in i5 (by decide)) (iv_w i18 (by decide)) dX11_laysOrbit_92 (fun R66 f64 erR66 H locs h tf64 of64 hq hn_ k65 => ?_)
            have k67 := atp.tg k17_u0_6 hq hu0 (by decide)
            have k68 := atp.tg k17_u0_20 hq hu0 (by decide)
            have k69 := atp.tg k17_u0_21 hq hu0 (by decide)
            have k70 := atp.tg k17_bq_R hq hbq (by decide)
            have k72 := atp.tg k17_pq_R hq hpq (by decide)
            refine lv_aload_n hx hb dX11_laysOrbit_93 rfl (lv_at hl 2 rfl) ?_
            refine t_getfd C h tf64 hu0 (by decide) wf_60 (v := .ref pq) k69 fl_X11_51 dX11_laysOrbit_94 ?_
            refine lv_iload hx hb dX11_laysOrbit_97 (lv_at hl 6 rfl) ?_
            refine lv_iload hx hb dX11_laysOrbit_99 (lv_at hl 1 rfl) ?_
            refine lv_iconst (v := 1) hx hb dX11_laysOrbit_101 (by decide) ?_
            refine lv_icmp_ne (tgt := 110) hx hb dX11_laysOrbit_102 (by decide) (fun c73 => ?_) (fun c73 => ?_)
            · have c74 : z7.toInt ≠ 1 := fun z_ => c73 (Int32.toInt_inj.mp z_)
              refine lv_aload_n hx hb dX11_laysOrbit_110 rfl (lv_at hl 2 rfl) ?_
              refine t_getfd C h tf64 hu0 (by decide) wf_60 (v := .ref pq) k69 fl_X11_51 dX11_laysOrbit_111 ?_
              refine lv_iload hx hb dX11_laysOrbit_114 (lv_at hl 6 rfl) ?_
              refine lv_iconst (v := 1) hx hb dX11_laysOrbit_116 (by decide) ?_
              refine i_subk hx hb dX11_laysOrbit_117 i5 (k := 1) rfl (lo := 0) (hi := 39) (by decide) (fun z76 ez76 mz76 iz76 => ?_)
              refine e_iald C h tf64 hpq (by decide) wf_81 k72 (iv_in iz76 (by decide)) dX11_laysOrbit_118 (fun z77 ez77 iz77 => ?_)
              have mz77 := congrArg Int32.toInt ez77
              have qz77_ := (rc_at hv17_1 (j := z76.toInt.toNat) (i := v17_4.toInt - 1) (by omega) (by omega)).2
              have pz77 : z77.toInt = PY (fun k : Int => (rb (10 * u1.toInt + k).toNat).toInt) u2.toInt u3.toInt (v17_4.toInt - 1) := by rw [ez77]; exact qz77_.1
              have bz77 : iv z77 0 1000002 := ⟨by omega, by omega⟩
              refine e_iast C h tf64 of64 hpq (by decide) (by decide) wf_81 fw_81 k72 (iv_in i5 (by decide)) (iv_w bz77 (by decide)) dX11_laysOrbit_119 (fun R80 f78 erR80 H locs h tf78 of78 hq hn_ k79 => ?_)
              have k81 := atp.tg k67 hq hu0 (by decide)
              have k82 := atp.tg k68 hq hu0 (by decide)
              have k83 := atp.tg k69 hq hu0 (by decide)
              have k84 := atp.tg k70 hq hbq (by decide)
              have k86 := atp.tg k65 hq hoq (by decide)
              refine lv_iload hx hb dX11_laysOrbit_120 (lv_at hl 1 rfl) ?_
              refine lv_iconst (v := 1) hx hb dX11_laysOrbit_122 (by decide) ?_
              refine lv_icmp_ne (tgt := 151) hx hb dX11_laysOrbit_123 (by decide) (fun c87 => ?_) (fun c87 => ?_)
              · have c88 : z7.toInt ≠ 1 := fun z_ => c87 (Int32.toInt_inj.mp z_)
                refine i_inc hx hb dX11_laysOrbit_151 hl (k := 6) rfl i5 rfl (lo := 2) (hi := 41) (by decide) (by decide) (lv' := fun v => [(4, .int v), (6, .int r13), (5, .int z7), (0, .ref u0), (1, .int u1), (2, .int u2), (3, .int u3)]) (fun _ => rfl) (fun z90 ls ez90 mz90 iz90 hl => ?_)
                refine lv_goto (tgt := 17) hx hb dX11_laysOrbit_154 (by decide) ?_
                exact ih17 ls f78 H locs z90 R66 R80 (show 41 - z90.toInt < _ by omega) (lv_cons hl 3 rfl (lv_cons hl 4 rfl (lv_cons hl 5 rfl (lv_cons hl 6 rfl (lv_cons hl 0 rfl (lv_nil hl)))))) h tf78 of78 (iv_w iz90 (by decide)) k81 k82 k83 k84 k86 k79 (show ((z90.toInt - 1) % 2 = 0 → OS (fun k : Int => (rb (10 * u1.toInt + k).toNat).toInt) u2.toInt u3.toInt (z90.toInt - 1)) ∧ ((z90.toInt - 1) % 2 = 1 → OH (fun k : Int => (rb (10 * u1.toInt + k).toNat).toInt) u2.toInt u3.toInt (z90.toInt - 1)) from (by
                    rw [show z90.toInt - 1 = v17_4.toInt by omega]
                    refine ⟨fun z_ => ?_, fun z_ => ?_⟩
                    · first | (exfalso; omega) | exact (hT_ (by omega)).2.2.2.2 (by omega) (by omega)
                    · first | (exfalso; omega) | exact (hS_ (by omega)).2.2.2 (by omega))) (show RC (fun k : Int => (rb (10 * u1.toInt + k).toNat).toInt) u2.toInt u3.toInt z90.toInt R66 R80 from (by
                    have h_ : RC (fun k : Int => (rb (10 * u1.toInt + k).toNat).toInt) u2.toInt u3.toInt (v17_4.toInt + 1) R66 R80 := by
                      rcases (show (v17_4.toInt - 1) % 2 = 0 ∨ (v17_4.toInt - 1) % 2 = 1 by omega) with z_ | z_
                      · first | (exfalso; omega) | (obtain ⟨s1_, s2_, -⟩ := hS_ z_; exact rc_s hv17_1 erR66 erR80 (by omega) (by omega) ⟨by omega, by omega, by omega⟩ ⟨by omega, by omega, by omega⟩)
                      · first | (exfalso; omega) | (obtain ⟨s1_, s2_, -⟩ := hT_ z_; exact rc_s hv17_1 erR66 erR80 (by omega) (by omega) ⟨by omega, by omega, by omega⟩ ⟨by omega, by omega, by omega⟩)
                    rw [show z90.toInt = v17_4.toInt + 1 by omega]; exact h_))
              · have c89 : z7.toInt = 1 := congrArg Int32.toInt c87
                exact (iv_cq_ c89 i25 (iv_k (x := 1) (k := 1) rfl) (by decide)).elim
            · have c75 : z7.toInt = 1 := congrArg Int32.toInt c73
              exact (iv_cq_ c75 i25 (iv_k (x := 1) (k := 1) rfl) (by decide)).elim
        · have c19 : r13.toInt = (-1) := congrArg Int32.toInt c16
          have i20 : iv r13 (-1) (-1) := iv_Q c19 ir13 (iv_k (x := (-1)) (k := (-1)) rfl) (by decide)
          refine lv_iconst (v := -1) hx hb dX11_laysOrbit_65 (by decide) ?_
          exact u_iret C h hr hQ (⟨⟨by decide, by decide⟩, t_17, o_17, (by
              rcases (show (v17_4.toInt - 1) % 2 = 0 ∨ (v17_4.toInt - 1) % 2 = 1 by omega) with z_ | z_
              · exact ((hS_ z_).2.2.1 (by omega)).symm
              · exact ((hT_ z_).2.2.1 (by omega)).symm), ⟨g17_oq_R, g17_pq_R, k17_oq_R, k17_pq_R, (fun z_ => absurd rfl z_)⟩⟩) (Nat.le_of_ble_eq_true rfl) (Nat.le_of_ble_eq_true rfl) dX11_laysOrbit_66
  refine lv_aload_n hx hb dX11_laysOrbit_0 rfl (lv_at hl 0 rfl) ?_
  refine t_getfd C h t hu0 (by decide) wf_60 (v := .ref oq) k_u0_20 fl_X11_48 dX11_laysOrbit_1 ?_
  refine lv_iconst (v := 0) hx hb dX11_laysOrbit_4 (by decide) ?_
  refine lv_iload_n hx hb dX11_laysOrbit_5 rfl (lv_at hl 2 rfl) ?_
  refine e_iast C h t o hoq (by decide) (by decide) wf_71 fw_71 hRoq (by unfold vp_in; decide) (iv_w hu2 (by decide)) dX11_laysOrbit_6 (fun R93 f91 erR93 H locs h tf91 of91 hq hn_ k92 => ?_)
  have erR93 : R93 = upd ro 0 u2 := erR93
  have k94 := atp.tg k_u0_6 hq hu0 (by decide)
  have k95 := atp.tg k_u0_20 hq hu0 (by decide)
  have k96 := atp.tg k_u0_21 hq hu0 (by decide)
  have k97 := atp.tg hRbq hq hbq (by decide)
  have k99 := atp.tg hRpq hq hpq (by decide)
  refine lv_aload_n hx hb dX11_laysOrbit_7 rfl (lv_at hl 0 rfl) ?_
  refine t_getfd C h tf91 hu0 (by decide) wf_60 (v := .ref pq) k96 fl_X11_51 dX11_laysOrbit_8 ?_
  refine lv_iconst (v := 0) hx hb dX11_laysOrbit_11 (by decide) ?_
  refine lv_iload_n hx hb dX11_laysOrbit_12 rfl (lv_at hl 3 rfl) ?_
  refine e_iast C h tf91 of91 hpq (by decide) (by decide) wf_81 fw_81 k99 (by unfold vp_in; decide) (iv_w hu3 (by decide)) dX11_laysOrbit_13 (fun R102 f100 erR102 H locs h tf100 of100 hq hn_ k101 => ?_)
  have erR102 : R102 = upd rp 0 u3 := erR102
  have k103 := atp.tg k94 hq hu0 (by decide)
  have k104 := atp.tg k95 hq hu0 (by decide)
  have k105 := atp.tg k96 hq hu0 (by decide)
  have k106 := atp.tg k97 hq hbq (by decide)
  have k108 := atp.tg k92 hq hoq (by decide)
  refine lv_iconst (v := 1) hx hb dX11_laysOrbit_14 (by decide) ?_
  refine lv_istore (lv' := [(4, .int 1), (0, .ref u0), (1, .int u1), (2, .int u2), (3, .int u3)]) hx hb dX11_laysOrbit_15 hl (by decide) rfl (fun ls hl => ?_)
  exact L17 41 ls f100 H locs 1 R93 R102 (by decide) (lv_cons hl 1 rfl (lv_cons hl 2 rfl (lv_cons hl 3 rfl (lv_cons hl 4 rfl (lv_cons hl 0 rfl (lv_nil hl)))))) h tf100 of100 ⟨by decide, by decide⟩ k103 k104 k105 k106 k108 k101 (show ((1 - 1) % 2 = 0 → OS (fun k : Int => (rb (10 * u1.toInt + k).toNat).toInt) u2.toInt u3.toInt (1 - 1)) ∧ ((1 - 1) % 2 = 1 → OH (fun k : Int => (rb (10 * u1.toInt + k).toNat).toInt) u2.toInt u3.toInt (1 - 1)) from ⟨fun _ => os_0, fun z_ => absurd z_ (by decide)⟩) (show RC (fun k : Int => (rb (10 * u1.toInt + k).toNat).toInt) u2.toInt u3.toInt 1 R93 R102 from (by have h_ := rc_s (rc_0 (W := (fun k : Int => (rb (10 * u1.toInt + k).toNat).toInt)) (x := u2.toInt) (y := u3.toInt)) erR93 erR102 (by decide) (by decide) ⟨rfl, by omega, by omega⟩ ⟨rfl, by omega, by omega⟩; exact h_))
abbrev rm_s_X11_groupOfX : Room := { frames := 6, cells := 0, slots := 0, locals := 155 }
set_option maxRecDepth 100000 in
set_option maxHeartbeats 4000000 in
theorem s_X11_groupOfX (l : Launch) (D : va_G) (G : Nat → Nat) (b0 : Nat) (τ : Nat → Nat) (f : hM) (t : TI G 9 τ f) (u0 : Nat) (hu0 : τ u0 = 60) (u1 : Int32) (hu1 : iv u1 0 7) (bq : Nat) (hbq : τ bq = 63) (k_u0_6 : atp f u0 (fd 6 (.ref bq))) (oq : Nat) (hoq : τ oq = 71) (k_u0_20 : atp f u0 (fd 20 (.ref oq))) (pq : Nat) (hpq : τ pq = 81) (k_u0_21 : atp f u0 (fd 21 (.ref pq))) (rb : Nat → Int32) (hRbq : atp f bq (eqc (.inl (G 1, 81, .inl rb)))) (ro : Nat → Int32) (hRoq : atp f oq (eqc (.inl (G 1, 41, .inl ro)))) (rp : Nat → Int32) (hRpq : atp f pq (eqc (.inl (G 1, 41, .inl rp)))) : mI l yX11_groupOf cX11_groupOf 5 (.int) rm_s_X11_groupOfX D G b0 f [.ref u0, .int u1] (fun r f1 => iv r (-1) 40 ∧ TI G 9 τ f1 ∧ Fr [71, 81] τ f f1 ∧ (r.toInt = GRP (fun k : Int => (rb (10 * u1.toInt + k).toNat).toInt))) := by
  refine met2 (own := RX11) (by decide) rfl (Nat.le_of_ble_eq_true rfl) ?_
  intro p e s m args below meth c ls Q hQ C hr hini hl h
  have hl : lv_has ls 5 [(0, .ref u0), (1, .int u1)] := hl
  obtain ⟨hx, hb, hml, hown, hts, hE0, hlk⟩ := id C
  have o := Fr.rf [71, 81] τ f
  refine lv_aload_n hx hb dX11_groupOf_0 rfl (lv_at hl 0 rfl) ?_
  refine lv_iload_n hx hb dX11_groupOf_1 rfl (lv_at hl 1 rfl) ?_
  refine lv_iconst (v := 2) hx hb dX11_groupOf_2 (by decide) ?_
  refine lv_iconst (v := 3) hx hb dX11_groupOf_3 (by decide) ?_
  obtain ⟨_, r1⟩ := t_rec t hu0 (by decide) wf_60
  refine k_i (r_V C h hl (As := [.int u1, .int 2, .int 3]) (rest := []) (s_X11_laysOrbitX l D G b0 τ f t u0 hu0 u1 hu1 2 (iv_w (iv_k (x := 2) (k := 2) rfl) (by decide)) 3 (iv_w (iv_k (x := 3) (k := 3) rfl) (by decide)) bq hbq k_u0_6 oq hoq k_u0_20 pq hpq k_u0_21 rb hRbq ro hRoq rp hRpq) r1 (Cn := RX11) (T := TX11) (N := 32) rfl rfl mk_X11_laysOrbit w_1891 w_1893 w_73 w_1894 ⟨Nat.le_of_ble_eq_true rfl, Nat.le_of_ble_eq_true rfl⟩ rfl (Nat.le_of_ble_eq_true rfl) ⟨Nat.le_of_ble_eq_true rfl, Nat.le_of_ble_eq_true rfl⟩ rfl dX11_groupOf_4) h (fun r2 f3 H locs p4 h => ?_)
  have n5 : (2 : Int32).toInt = 2 := rfl
  have n6 : (3 : Int32).toInt = 3 := rfl
  obtain ⟨ir2, tf3, ogf3, x0r2, ⟨ro1_f3, rp1_f3, kRoqf3, kRpqf3, jtf3⟩⟩ := p4
  have x0r2 : r2.toInt = OG (fun k : Int => (rb (10 * u1.toInt + k).toNat).toInt) 2 3 := x0r2
  have of3 : Fr [71, 81] τ f f3 := Fr.tr o ogf3 (by decide) (by decide)
  have k7 := atp.fr k_u0_6 ogf3 hu0 (by decide)
  have k8 := atp.fr k_u0_20 ogf3 hu0 (by decide)
  have k9 := atp.fr k_u0_21 ogf3 hu0 (by decide)
  have k10 := atp.fr hRbq ogf3 hbq (by decide)
  refine lv_istore_n (lv' := [(2, .int r2), (0, .ref u0), (1, .int u1)]) hx hb dX11_groupOf_7 rfl hl (by decide) rfl (fun ls hl => ?_)
  refine lv_aload_n hx hb dX11_groupOf_8 rfl (lv_at hl 1 rfl) ?_
  refine lv_iload_n hx hb dX11_groupOf_9 rfl (lv_at hl 2 rfl) ?_
  refine lv_iconst (v := 5) hx hb dX11_groupOf_10 (by decide) ?_
  refine lv_bipush (v := 7) hx hb dX11_groupOf_11 (by decide) ?_
  obtain ⟨_, r11⟩ := t_rec tf3 hu0 (by decide) wf_60
  refine k_i (r_V C h hl (As := [.int u1, .int 5, .int 7]) (rest := []) (s_X11_laysOrbitX l D G b0 τ f3 tf3 u0 hu0 u1 hu1 5 (iv_w (iv_k (x := 5) (k := 5) rfl) (by decide)) 7 (iv_w (iv_k (x := 7) (k := 7) rfl) (by decide)) bq hbq k7 oq hoq k8 pq hpq k9 rb k10 ro1_f3 kRoqf3 rp1_f3 kRpqf3) r11 (Cn := RX11) (T := TX11) (N := 32) rfl rfl mk_X11_laysOrbit w_1891 w_1893 w_73 w_1894 ⟨Nat.le_of_ble_eq_true rfl, Nat.le_of_ble_eq_true rfl⟩ rfl (Nat.le_of_ble_eq_true rfl) ⟨Nat.le_of_ble_eq_true rfl, Nat.le_of_ble_eq_true rfl⟩ rfl dX11_groupOf_13) h (fun r12 f13 H locs p14 h => ?_)
  have n15 : (5 : Int32).toInt = 5 := rfl
  have n16 : (7 : Int32).toInt = 7 := rfl
  obtain ⟨ir12, tf13, ogf13, x0r12, ⟨ro1_f13, rp1_f13, kRoqf13, kRpqf13, jtf13⟩⟩ := p14
  have x0r12 : r12.toInt = OG (fun k : Int => (rb (10 * u1.toInt + k).toNat).toInt) 5 7 := x0r12
  have of13 : Fr [71, 81] τ f f13 := Fr.tr of3 ogf13 (by decide) (by decide)
  have k17 := atp.fr k7 ogf13 hu0 (by decide)
  have k18 := atp.fr k8 ogf13 hu0 (by decide)
  have k19 := atp.fr k9 ogf13 hu0 (by decide)
  have k20 := atp.fr k10 ogf13 hbq (by decide)
  refine lv_istore_n (lv' := [(3, .int r12), (2, .int r2), (0, .ref u0), (1, .int u1)]) hx hb dX11_groupOf_16 rfl hl (by decide) rfl (fun ls hl => ?_)
  refine lv_aload_n hx hb dX11_groupOf_17 rfl (lv_at hl 2 rfl) ?_
  refine lv_iload_n hx hb dX11_groupOf_18 rfl (lv_at hl 3 rfl) ?_
  refine lv_bipush (v := 11) hx hb dX11_groupOf_19 (by decide) ?_
  refine lv_bipush (v := 13) hx hb dX11_groupOf_21 (by decide) ?_
  obtain ⟨_, r21⟩ := t_rec tf13 hu0 (by decide) wf_60
  refine k_i (r_V C h hl (As := [.int u1, .int 11, .int 13]) (rest := []) (s_X11_laysOrbitX l D G b0 τ f13 tf13 u0 hu0 u1 hu1 11 (iv_w (iv_k (x := 11) (k := 11) rfl) (by decide)) 13 (iv_w (iv_k (x := 13) (k := 13) rfl) (by decide)) bq hbq k17 oq hoq k18 pq hpq k19 rb k20 ro1_f13 kRoqf13 rp1_f13 kRpqf13) r21 (Cn := RX11) (T := TX11) (N := 32) rfl rfl mk_X11_laysOrbit w_1891 w_1893 w_73 w_1894 ⟨Nat.le_of_ble_eq_true rfl, Nat.le_of_ble_eq_true rfl⟩ rfl (Nat.le_of_ble_eq_true rfl) ⟨Nat.le_of_ble_eq_true rfl, Nat.le_of_ble_eq_true rfl⟩ rfl dX11_groupOf_23) h (fun r22 f23 H locs p24 h => ?_)
  have n25 : (11 : Int32).toInt = 11 := rfl
  have n26 : (13 : Int32).toInt = 13 := rfl
  obtain ⟨ir22, tf23, ogf23, x0r22, ⟨ro1_f23, rp1_f23, kRoqf23, kRpqf23, jtf23⟩⟩ := p24
  have x0r22 : r22.toInt = OG (fun k : Int => (rb (10 * u1.toInt + k).toNat).toInt) 11 13 := x0r22
  have of23 : Fr [71, 81] τ f f23 := Fr.tr of13 ogf23 (by decide) (by decide)
  have k27 := atp.fr k17 ogf23 hu0 (by decide)
  have k28 := atp.fr k18 ogf23 hu0 (by decide)
  have k29 := atp.fr k19 ogf23 hu0 (by decide)
  have k30 := atp.fr k20 ogf23 hbq (by decide)
  refine lv_istore (lv' := [(4, .int r22), (3, .int r12), (2, .int r2), (0, .ref u0), (1, .int u1)]) hx hb dX11_groupOf_26 hl (by decide) rfl (fun ls hl => ?_)
  refine lv_iload_n hx hb dX11_groupOf_28 rfl (lv_at hl 2 rfl) ?_
  refine lv_iconst (v := -1) hx hb dX11_groupOf_29 (by decide) ?_
  refine lv_icmp_eq (tgt := 44) hx hb dX11_groupOf_30 (by decide) (fun c31 => ?_) (fun c31 => ?_)
  · have c32 : r2.toInt = (-1) := congrArg Int32.toInt c31
    have i33 : iv r2 (-1) (-1) := iv_Q c32 ir2 (iv_k (x := (-1)) (k := (-1)) rfl) (by decide)
    refine lv_iconst (v := -1) hx hb dX11_groupOf_44 (by decide) ?_
    refine lv_goto (tgt := 58) hx hb dX11_groupOf_45 (by decide) ?_
    exact u_iret C h hr hQ (⟨⟨by decide, by decide⟩, tf23, of23, (by unfold GRP gr3; have n_ : (-1 : Int32).toInt = -1 := rfl; split <;> omega)⟩) (Nat.le_of_ble_eq_true rfl) (Nat.le_of_ble_eq_true rfl) dX11_groupOf_58
  · have c34 : r2.toInt ≠ (-1) := fun z_ => c31 (Int32.toInt_inj.mp z_)
    have i35 : iv r2 0 40 := iv_Nl c34 ir2 (by decide)
    refine lv_iload_n hx hb dX11_groupOf_33 rfl (lv_at hl 1 rfl) ?_
    refine lv_iconst (v := -1) hx hb dX11_groupOf_34 (by decide) ?_
    refine lv_icmp_eq (tgt := 44) hx hb dX11_groupOf_35 (by decide) (fun c36 => ?_) (fun c36 => ?_)
    · have c37 : r12.toInt = (-1) := congrArg Int32.toInt c36
      have i38 : iv r12 (-1) (-1) := iv_Q c37 ir12 (iv_k (x := (-1)) (k := (-1)) rfl) (by decide)
      refine lv_iconst (v := -1) hx hb dX11_groupOf_44 (by decide) ?_
      refine lv_goto (tgt := 58) hx hb dX11_groupOf_45 (by decide) ?_
      exact u_iret C h hr hQ (⟨⟨by decide, by decide⟩, tf23, of23, (by unfold GRP gr3; have n_ : (-1 : Int32).toInt = -1 := rfl; split <;> omega)⟩) (Nat.le_of_ble_eq_true rfl) (Nat.le_of_ble_eq_true rfl) dX11_groupOf_58
    · have c39 : r12.toInt ≠ (-1) := fun z_ => c36 (Int32.toInt_inj.mp z_)
      have i40 : iv r12 0 40 := iv_Nl c39 ir12 (by decide)
      refine lv_iload hx hb dX11_groupOf_38 (lv_at hl 0 rfl) ?_
      refine lv_iconst (v := -1) hx hb dX11_groupOf_40 (by decide) ?_
      refine lv_icmp_ne (tgt := 48) hx hb dX11_groupOf_41 (by decide) (fun c41 => ?_) (fun c41 => ?_)
      · have c42 : r22.toInt ≠ (-1) := fun z_ => c41 (Int32.toInt_inj.mp z_)
        have i43 : iv r22 0 40 := iv_Nl c42 ir22 (by decide)
        refine lv_iload_n hx hb dX11_groupOf_48 rfl (lv_at hl 2 rfl) ?_
        refine lv_iload_n hx hb dX11_groupOf_49 rfl (lv_at hl 1 rfl) ?_
        refine lv_iload hx hb dX11_groupOf_50 (lv_at hl 0 rfl) ?_
        refine va_mmax hx hb (hml.trans hl.1.symm) hown (hts _ w_1903) (hts _ w_453) (hts _ w_112) (hts _ w_454) (Nat.le_of_ble_eq_true rfl) (Nat.le_of_ble_eq_true rfl) (Nat.le_of_ble_eq_true rfl) (Nat.le_of_ble_eq_true rfl) dX11_groupOf_52 (i_max i40 i43 (lo := 0) (hi := 40) (by decide) (fun z46 mz46 iz46 => ?_))
        refine va_mmax hx hb (hml.trans hl.1.symm) hown (hts _ w_1903) (hts _ w_453) (hts _ w_112) (hts _ w_454) (Nat.le_of_ble_eq_true rfl) (Nat.le_of_ble_eq_true rfl) (Nat.le_of_ble_eq_true rfl) (Nat.le_of_ble_eq_true rfl) dX11_groupOf_55 (i_max i35 iz46 (lo := 0) (hi := 40) (by decide) (fun z47 mz47 iz47 => ?_))
        exact u_iret C h hr hQ (⟨(iv_w iz47 (by decide)), tf23, of23, (by unfold GRP gr3; split <;> omega)⟩) (Nat.le_of_ble_eq_true rfl) (Nat.le_of_ble_eq_true rfl) dX11_groupOf_58
      · have c44 : r22.toInt = (-1) := congrArg Int32.toInt c41
        have i45 : iv r22 (-1) (-1) := iv_Q c44 ir22 (iv_k (x := (-1)) (k := (-1)) rfl) (by decide)
        refine lv_iconst (v := -1) hx hb dX11_groupOf_44 (by decide) ?_
        refine lv_goto (tgt := 58) hx hb dX11_groupOf_45 (by decide) ?_
        exact u_iret C h hr hQ (⟨⟨by decide, by decide⟩, tf23, of23, (by unfold GRP gr3; have n_ : (-1 : Int32).toInt = -1 := rfl; split <;> omega)⟩) (Nat.le_of_ble_eq_true rfl) (Nat.le_of_ble_eq_true rfl) dX11_groupOf_58
abbrev rm_s_X11_groupX : Room := { frames := 7, cells := 0, slots := 0, locals := 179 }
set_option maxRecDepth 100000 in
set_option maxHeartbeats 4000000 in
theorem s_X11_groupX (l : Launch) (D : va_G) (G : Nat → Nat) (b0 : Nat) (τ : Nat → Nat) (f : hM) (t : TI G 9 τ f) (u0 : Nat) (hu0 : τ u0 = 60) (u1 : Int32) (hu1 : iv u1 (-2147483648) 2147483647) (bq : Nat) (hbq : τ bq = 63) (k_u0_6 : atp f u0 (fd 6 (.ref bq))) (oq : Nat) (hoq : τ oq = 71) (k_u0_20 : atp f u0 (fd 20 (.ref oq))) (pq : Nat) (hpq : τ pq = 81) (k_u0_21 : atp f u0 (fd 21 (.ref pq))) (rb : Nat → Int32) (hRbq : atp f bq (eqc (.inl (G 1, 81, .inl rb)))) (ro : Nat → Int32) (hRoq : atp f oq (eqc (.inl (G 1, 41, .inl ro)))) (rp : Nat → Int32) (hRpq : atp f pq (eqc (.inl (G 1, 41, .inl rp)))) : mI l yX11_group cX11_group 2 (.int) rm_s_X11_groupX D G b0 f [.ref u0, .int u1] (fun r f1 => iv r (-2) 40 ∧ TI G 9 τ f1 ∧ Fr [60, 71, 81, 60001] τ f f1 ∧ (((0 ≤ u1.toInt ∧ u1.toInt < (rb 80).toInt) → r.toInt = GRP (fun k : Int => (rb (10 * u1.toInt + k).toNat).toInt)) ∧ (¬ (0 ≤ u1.toInt ∧ u1.toInt < (rb 80).toInt) → r.toInt = -2))) := by
  refine met2 (own := RX11) (by decide) rfl (Nat.le_of_ble_eq_true rfl) ?_
  intro p e s m args below meth c ls Q hQ C hr hini hl h
  have hl : lv_has ls 2 [(0, .ref u0), (1, .int u1)] := hl
  obtain ⟨hx, hb, hml, hown, hts, hE0, hlk⟩ := id C
  have o := Fr.rf [60, 71, 81, 60001] τ f
  refine lv_aload_n hx hb dX11_group_0 rfl (lv_at hl 0 rfl) ?_
  refine lv_iconst (v := 0) hx hb dX11_group_1 (by decide) ?_
  refine t_put C h t o hu0 (by decide) (by decide) (by decide) wf_60 fw_60 (k := 0) rfl flw_X11_75 (Or.inr ⟨_, _, _, rfl, rfl⟩) (v := .int 0) rfl rfl ⟨_, rfl, ⟨by decide, by decide⟩⟩ dX11_group_2 (fun f1 H locs h tf1 of1 hq ha_ hn_ hk_ => ?_)
  have k2 := hk_ 6 _ (by decide) k_u0_6
  have k3 := hk_ 20 _ (by decide) k_u0_20
  have k4 := hk_ 21 _ (by decide) k_u0_21
  have k5 := atp.tg hRbq hq hbq (by decide)
  have k6 := atp.tg hRoq hq hoq (by decide)
  have k7 := atp.tg hRpq hq hpq (by decide)
  have k8 := ha_
  refine lv_aload_n hx hb dX11_group_5 rfl (lv_at hl 0 rfl) ?_
  refine lv_iload_n hx hb dX11_group_6 rfl (lv_at hl 1 rfl) ?_
  obtain ⟨_, r9⟩ := t_rec tf1 hu0 (by decide) wf_60
  refine k_i (r_V C h hl (As := [.int u1]) (rest := []) (s_X11_isSetX l D G b0 τ f1 tf1 u0 hu0 u1 hu1 bq hbq k2 rb k5) r9 (Cn := RX11) (T := TX11) (N := 32) rfl rfl mk_X11_isSet w_1620 w_1622 w_51 w_1623 ⟨Nat.le_of_ble_eq_true rfl, Nat.le_of_ble_eq_true rfl⟩ rfl (Nat.le_of_ble_eq_true rfl) ⟨Nat.le_of_ble_eq_true rfl, Nat.le_of_ble_eq_true rfl⟩ rfl dX11_group_7) h (fun r10 f11 H locs p12 h => ?_)
  obtain ⟨ir10, tf11, ogf11, cnr10, czr10⟩ := p12
  have egf11 := Fr.nil2 ogf11
  subst egf11
  refine lv_if_eq (tgt := 21) hx hb dX11_group_10 (by decide) (fun c13 => ?_) (fun c13 => ?_)
  · have c14 : r10.toInt = 0 := congrArg Int32.toInt c13
    have i15 : iv r10 0 0 := iv_Q c14 ir10 (iv_k (x := 0) (k := 0) rfl) (by decide)
    have i16 := czr10 c14
    refine lv_bipush (v := -2) hx hb dX11_group_21 (by decide) ?_
    exact u_iret C h hr hQ (⟨⟨by decide, by decide⟩, tf1, of1, ⟨fun z_ => absurd z_ (by omega), fun _ => rfl⟩⟩) (Nat.le_of_ble_eq_true rfl) (Nat.le_of_ble_eq_true rfl) dX11_group_23
  · have c17 : r10.toInt ≠ 0 := fun z_ => c13 (Int32.toInt_inj.mp z_)
    have i18 : iv r10 1 1 := iv_Nl c17 ir10 (by decide)
    obtain ⟨i19, i20⟩ := cnr10 c17
    refine lv_aload_n hx hb dX11_group_13 rfl (lv_at hl 0 rfl) ?_
    refine lv_iload_n hx hb dX11_group_14 rfl (lv_at hl 1 rfl) ?_
    obtain ⟨_, r21⟩ := t_rec tf1 hu0 (by decide) wf_60
    refine k_i (r_V C h hl (As := [.int u1]) (rest := []) (s_X11_groupOfX l D G b0 τ f1 tf1 u0 hu0 u1 i19 bq hbq k2 oq hoq k3 pq hpq k4 rb k5 ro k6 rp k7) r21 (Cn := RX11) (T := TX11) (N := 32) rfl rfl mk_X11_groupOf w_1899 w_1901 w_74 w_1902 ⟨Nat.le_of_ble_eq_true rfl, Nat.le_of_ble_eq_true rfl⟩ rfl (Nat.le_of_ble_eq_true rfl) ⟨Nat.le_of_ble_eq_true rfl, Nat.le_of_ble_eq_true rfl⟩ rfl dX11_group_15) h (fun r22 f23 H locs p24 h => ?_)
    obtain ⟨ir22, tf23, ogf23, x0r22⟩ := p24
    have of23 : Fr [60, 71, 81, 60001] τ f f23 := Fr.tr of1 ogf23 (by decide) (by decide)
    have k25 := atp.fr k2 ogf23 hu0 (by decide)
    have k26 := atp.fr k3 ogf23 hu0 (by decide)
    have k27 := atp.fr k4 ogf23 hu0 (by decide)
    have k28 := atp.fr k5 ogf23 hbq (by decide)
    refine lv_goto (tgt := 23) hx hb dX11_group_18 (by decide) ?_
    exact u_iret C h hr hQ (⟨(iv_w ir22 (by decide)), tf23, of23, ⟨fun _ => x0r22, fun z_ => absurd (by omega) z_⟩⟩) (Nat.le_of_ble_eq_true rfl) (Nat.le_of_ble_eq_true rfl) dX11_group_23
abbrev rm_s_X11_sumX : Room := { frames := 6, cells := 0, slots := 0, locals := 155 }
set_option maxRecDepth 100000 in
set_option maxHeartbeats 4000000 in
theorem s_X11_sumX (l : Launch) (D : va_G) (G : Nat → Nat) (b0 : Nat) (τ : Nat → Nat) (f : hM) (t : TI G 9 τ f) (u0 : Nat) (hu0 : τ u0 = 60) (u1 : Int32) (hu1 : iv u1 (-2147483648) 2147483647) (u2 : Int32) (hu2 : iv u2 (-2147483648) 2147483647) (u3 : Int32) (hu3 : iv u3 (-2147483648) 2147483647) (bq : Nat) (hbq : τ bq = 63) (k_u0_6 : atp f u0 (fd 6 (.ref bq))) (oq : Nat) (hoq : τ oq = 71) (k_u0_20 : atp f u0 (fd 20 (.ref oq))) (pq : Nat) (hpq : τ pq = 81) (k_u0_21 : atp f u0 (fd 21 (.ref pq))) (rb : Nat → Int32) (hRbq : atp f bq (eqc (.inl (G 1, 81, .inl rb)))) (ro : Nat → Int32) (hRoq : atp f oq (eqc (.inl (G 1, 41, .inl ro)))) (rp : Nat → Int32) (hRpq : atp f pq (eqc (.inl (G 1, 41, .inl rp)))) : mI l yX11_sum cX11_sum 10 (.int) rm_s_X11_sumX D G b0 f [.ref u0, .int u1, .int u2, .int u3] (fun r f1 => iv r (-2) 1000002 ∧ TI G 9 τ f1 ∧ Fr [60, 71, 81, 60001] τ f f1 ∧ (((0 ≤ u1.toInt ∧ u1.toInt < (rb 80).toInt) ∧ 1 ≤ u2.toInt ∧ u2.toInt ≤ 1000002 ∧ 1 ≤ u3.toInt ∧ u3.toInt ≤ 1000002 → r.toInt = (if OG (fun k : Int => (rb (10 * u1.toInt + k).toNat).toInt) u2.toInt u3.toInt = -1 then -1 else alt (fun k : Int => (rb (10 * u1.toInt + k).toNat).toInt) u2.toInt u3.toInt (OG (fun k : Int => (rb (10 * u1.toInt + k).toNat).toInt) u2.toInt u3.toInt).toNat % 1000003)) ∧ (¬ ((0 ≤ u1.toInt ∧ u1.toInt < (rb 80).toInt) ∧ 1 ≤ u2.toInt ∧ u2.toInt ≤ 1000002 ∧ 1 ≤ u3.toInt ∧ u3.toInt ≤ 1000002) → r.toInt = -2))) := by
  refine met2 (own := RX11) (by decide) rfl (Nat.le_of_ble_eq_true rfl) ?_
  intro p e s m args below meth c ls Q hQ C hr hini hl h
  have hl : lv_has ls 10 [(0, .ref u0), (1, .int u1), (2, .int u2), (3, .int u3)] := hl
  obtain ⟨hx, hb, hml, hown, hts, hE0, hlk⟩ := id C
  have o := Fr.rf [60, 71, 81, 60001] τ f
  have L47 : ∀ (n47 : Nat) (ls : Array Slot) (f_47 : hM) (H : Heap) (locs : List Loc) (v47_4 : Int32) (v47_5 : Int64) (v47_7 : Int32) (g47_oq_R : Nat → Int32) (g47_pq_R : Nat → Int32), 40 - v47_7.toInt < (n47 : Int) → lv_has ls 10 [(0, .ref u0), (4, .int v47_4), (5, .long v47_5), (7, .int v47_7)] → hw D b0 s.heap f_47 H locs → TI G 9 τ f_47 → Fr [60, 71, 81, 60001] τ f f_47 → iv v47_4 0 40 → iv v47_7 0 40 → atp f_47 u0 (fd 6 (.ref bq)) → atp f_47 u0 (fd 20 (.ref oq)) → atp f_47 u0 (fd 21 (.ref pq)) → atp f_47 bq (eqc (.inl (G 1, 81, .inl rb))) → atp f_47 oq (eqc (.inl (G 1, 41, .inl g47_oq_R))) → atp f_47 pq (eqc (.inl (G 1, 41, .inl g47_pq_R))) → 0 ≤ v47_5.toInt ∧ v47_5.toInt ≤ 1000003 * v47_7.toInt → (v47_5.toInt = alm (fun k : Int => (rb (10 * u1.toInt + k).toNat).toInt) u2.toInt u3.toInt (Int.toNat v47_7.toInt)) → (RC (fun k : Int => (rb (10 * u1.toInt + k).toNat).toInt) u2.toInt u3.toInt v47_4.toInt g47_oq_R g47_pq_R) → v47_7.toInt ≤ v47_4.toInt → v47_4.toInt = OG (fun k : Int => (rb (10 * u1.toInt + k).toNat).toInt) u2.toInt u3.toInt ∧ v47_4.toInt ≠ -1 → 0 ≤ u1.toInt ∧ u1.toInt < (rb 80).toInt ∧ 1 ≤ u2.toInt ∧ u2.toInt ≤ 1000002 ∧ 1 ≤ u3.toInt ∧ u3.toInt ≤ 1000002 → W p l e rm_s_X11_sumX s m args below meth c H locs 0 0 Q (F0 m 47 ls []) := by
    intro n47
    induction n47 with
    | zero => intro ls f_47 H locs v47_4 v47_5 v47_7 g47_oq_R g47_pq_R hm47 hl h t_47 o_47 iv47_4 iv47_7 k47_u0_6 k47_u0_20 k47_u0_21 k47_bq_R k47_oq_R k47_pq_R hv47_0 hv47_1 hv47_2 hv47_3 hv47_4 hv47_5; exact absurd hm47 (by omega)
    | succ n47 ih47 =>
      intro ls f_47 H locs v47_4 v47_5 v47_7 g47_oq_R g47_pq_R hm47 hl h t_47 o_47 iv47_4 iv47_7 k47_u0_6 k47_u0_20 k47_u0_21 k47_bq_R k47_oq_R k47_pq_R hv47_0 hv47_1 hv47_2 hv47_3 hv47_4 hv47_5
      refine lv_iload hx hb dX11_sum_47 (lv_at hl 3 rfl) ?_
      refine lv_iload hx hb dX11_sum_49 (lv_at hl 1 rfl) ?_
      refine lv_icmp_ge (tgt := 106) hx hb dX11_sum_51 (by decide) (fun c1 => ?_) (fun c1 => ?_)
      · have c2 : v47_4.toInt ≤ v47_7.toInt := Int32.le_iff_toInt_le.mp c1
        refine lv_lload hx hb dX11_sum_106 (lv_at hl 2 rfl) ?_
        refine lv_ldc2 (v := 1000003) hx hb hown (hts _ w_1719) dX11_sum_108 ?_
        refine lv_lrem hx hb dX11_sum_111 (by decide) (i_topl (lrem_iv (k := 1000003) rfl (by decide) (lo := -1000002) (hi := 1000002) (by decide)) (fun w6 ew6 iw6 => ?_))
        have mw6 := L_rem ew6 (by omega)
        refine lv_l2i hx hb dX11_sum_112 rfl (i_top (iv_l2i iw6 (by decide)) (fun z7 ez7 iz7 => ?_))
        have mz7 := L_l2i ez7 (by omega)
        exact u_iret C h hr hQ (⟨(show iv z7 (-2) 1000002 from by omega), t_47, o_47, ⟨fun _ => (by
            rw [if_neg (by omega), mz7, mw6, hv47_1, alm_alt]
            exact congrArg (fun z_ => alt (fun k : Int => (rb (10 * u1.toInt + k).toNat).toInt) u2.toInt u3.toInt z_ % 1000003) (by omega)), fun z_ => absurd (by omega) z_⟩⟩) (Nat.le_of_ble_eq_true rfl) (Nat.le_of_ble_eq_true rfl) dX11_sum_113
      · have c3 : v47_7.toInt < v47_4.toInt := Int32.lt_iff_toInt_lt.mp (iv_nle c1)
        have i4 : iv v47_7 0 39 := iv_Ll c3 iv47_7 iv47_4 (by decide)
        have i5 : iv v47_4 1 40 := iv_Lr c3 iv47_7 iv47_4 (by decide)
        refine lv_aload_n hx hb dX11_sum_54 rfl (lv_at hl 0 rfl) ?_
        refine t_getfd C h t_47 hu0 (by decide) wf_60 (v := .ref oq) k47_u0_20 fl_X11_48 dX11_sum_55 ?_
        refine lv_iload hx hb dX11_sum_58 (lv_at hl 3 rfl) ?_
        refine e_iald C h t_47 hoq (by decide) wf_71 k47_oq_R (iv_in i4 (by decide)) dX11_sum_60 (fun z8 ez8 iz8 => ?_)
        have mz8 := congrArg Int32.toInt ez8
        have qz8_ := (rc_at hv47_2 (j := v47_7.toInt.toNat) (i := v47_7.toInt) (by omega) (by omega)).1
        have pz8 : z8.toInt = PX (fun k : Int => (rb (10 * u1.toInt + k).toNat).toInt) u2.toInt u3.toInt v47_7.toInt := by rw [ez8]; exact qz8_.1
        have bz8 : iv z8 0 1000002 := ⟨by omega, by omega⟩
        refine lv_i2l hx hb dX11_sum_61 rfl (i_topL bz8 (fun w9 ew9 mw9 iw9 => ?_))
        refine lv_aload_n hx hb dX11_sum_62 rfl (lv_at hl 0 rfl) ?_
        refine t_getfd C h t_47 hu0 (by decide) wf_60 (v := .ref pq) k47_u0_21 fl_X11_51 dX11_sum_63 ?_
        refine lv_iload hx hb dX11_sum_66 (lv_at hl 3 rfl) ?_
        refine e_iald C h t_47 hpq (by decide) wf_81 k47_pq_R (iv_in i4 (by decide)) dX11_sum_68 (fun z10 ez10 iz10 => ?_)
        have mz10 := congrArg Int32.toInt ez10
        have qz10_ := (rc_at hv47_2 (j := v47_7.toInt.toNat) (i := v47_7.toInt) (by omega) (by omega)).2
        have pz10 : z10.toInt = PY (fun k : Int => (rb (10 * u1.toInt + k).toNat).toInt) u2.toInt u3.toInt v47_7.toInt := by rw [ez10]; exact qz10_.1
        have bz10 : iv z10 0 1000002 := ⟨by omega, by omega⟩
        refine lv_i2l hx hb dX11_sum_69 rfl (i_topL bz10 (fun w11 ew11 mw11 iw11 => ?_))
        refine lv_lmul hx hb dX11_sum_70 (lv_topl (fun w12 ew12 => ?_))
        obtain ⟨mw12, bw12⟩ := L_mulp (A := 1000002) (B := 1000002) ew12 ⟨by omega, by omega⟩ ⟨by omega, by omega⟩ (by decide)
        rw [mw9] at mw12
        rw [mw11] at mw12
        refine lv_ldc2 (v := 1000003) hx hb hown (hts _ w_1719) dX11_sum_71 ?_
        refine lv_lrem hx hb dX11_sum_74 (by decide) (i_topl (lrem_iv (k := 1000003) rfl (by decide) (lo := -1000002) (hi := 1000002) (by decide)) (fun w13 ew13 iw13 => ?_))
        have mw13 := L_rem ew13 (by omega)
        refine lv_lstore (lv' := [(8, .long w13), (0, .ref u0), (4, .int v47_4), (5, .long v47_5), (7, .int v47_7)]) hx hb dX11_sum_75 hl (by decide) rfl (fun ls hl => ?_)
        refine lv_lload hx hb dX11_sum_77 (lv_at hl 3 rfl) ?_
        refine lv_iload hx hb dX11_sum_79 (lv_at hl 4 rfl) ?_
        refine lv_iconst (v := 2) hx hb dX11_sum_81 (by decide) ?_
        refine lv_irem hx hb dX11_sum_82 (by decide) (i_topm (P := fun q_ => q_ = Int32.toInt v47_7 % 2) (iv_remx (k := 2) (iv_w i4 (by decide) : iv _ 0 39) rfl (by decide)) (fun z14 ez14 mz14 iz14 => ?_))
        refine lv_if_ne (tgt := 91) hx hb dX11_sum_83 (by decide) (fun c15 => ?_) (fun c15 => ?_)
        · have c16 : z14.toInt ≠ 0 := fun z_ => c15 (Int32.toInt_inj.mp z_)
          have i17 : iv z14 1 1 := iv_Nl c16 iz14 (by decide)
          refine lv_ldc2 (v := 1000003) hx hb hown (hts _ w_1719) dX11_sum_91 ?_
          refine lv_lload hx hb dX11_sum_94 (lv_at hl 0 rfl) ?_
          refine lv_lsub hx hb dX11_sum_96 (lv_topl (fun w20 ew20 => ?_))
          have k_ : (1000003 : Int64).toInt = 1000003 := rfl
          have mw20 := L_sub ew20 (by omega)
          refine lv_ladd hx hb dX11_sum_97 (lv_topl (fun w21 ew21 => ?_))
          have mw21 := L_add ew21 (by omega)
          refine lv_lstore (lv' := [(5, .long w21), (8, .long w13), (0, .ref u0), (4, .int v47_4), (7, .int v47_7)]) hx hb dX11_sum_98 hl (by decide) rfl (fun ls hl => ?_)
          refine i_inc hx hb dX11_sum_100 hl (k := 4) rfl i4 rfl (lo := 1) (hi := 40) (by decide) (by decide) (lv' := fun v => [(7, .int v), (5, .long w21), (8, .long w13), (0, .ref u0), (4, .int v47_4)]) (fun _ => rfl) (fun z22 ls ez22 mz22 iz22 hl => ?_)
          refine lv_goto (tgt := 47) hx hb dX11_sum_103 (by decide) ?_
          exact ih47 ls f_47 H locs v47_4 w21 z22 g47_oq_R g47_pq_R (show 40 - z22.toInt < _ by omega) (lv_cons hl 3 rfl (lv_cons hl 4 rfl (lv_cons hl 1 rfl (lv_cons hl 0 rfl (lv_nil hl))))) h t_47 o_47 (iv_w i5 (by decide)) (iv_w iz22 (by decide)) k47_u0_6 k47_u0_20 k47_u0_21 k47_bq_R k47_oq_R k47_pq_R (show 0 ≤ w21.toInt ∧ w21.toInt ≤ 1000003 * z22.toInt by omega) (show w21.toInt = alm (fun k : Int => (rb (10 * u1.toInt + k).toNat).toInt) u2.toInt u3.toInt (Int.toNat z22.toInt) from (by rw [alm_s (i := v47_7.toInt) (by omega) (by omega), ← hv47_1, ← pz8, ← pz10, ← mw12, ← mw13]; split <;> omega)) (show RC (fun k : Int => (rb (10 * u1.toInt + k).toNat).toInt) u2.toInt u3.toInt v47_4.toInt g47_oq_R g47_pq_R from hv47_2) (show z22.toInt ≤ v47_4.toInt by omega) (show v47_4.toInt = OG (fun k : Int => (rb (10 * u1.toInt + k).toNat).toInt) u2.toInt u3.toInt ∧ v47_4.toInt ≠ -1 by omega) (show 0 ≤ u1.toInt ∧ u1.toInt < (rb 80).toInt ∧ 1 ≤ u2.toInt ∧ u2.toInt ≤ 1000002 ∧ 1 ≤ u3.toInt ∧ u3.toInt ≤ 1000002 by omega)
        · have c18 : z14.toInt = 0 := congrArg Int32.toInt c15
          have i19 : iv z14 0 0 := iv_Q c18 iz14 (iv_k (x := 0) (k := 0) rfl) (by decide)
          refine lv_lload hx hb dX11_sum_86 (lv_at hl 0 rfl) ?_
          refine lv_goto (tgt := 97) hx hb dX11_sum_88 (by decide) ?_
          refine lv_ladd hx hb dX11_sum_97 (lv_topl (fun w23 ew23 => ?_))
          have mw23 := L_add ew23 (by omega)
          refine lv_lstore (lv' := [(5, .long w23), (8, .long w13), (0, .ref u0), (4, .int v47_4), (7, .int v47_7)]) hx hb dX11_sum_98 hl (by decide) rfl (fun ls hl => ?_)
          refine i_inc hx hb dX11_sum_100 hl (k := 4) rfl i4 rfl (lo := 1) (hi := 40) (by decide) (by decide) (lv' := fun v => [(7, .int v), (5, .long w23), (8, .long w13), (0, .ref u0), (4, .int v47_4)]) (fun _ => rfl) (fun z24 ls ez24 mz24 iz24 hl => ?_)
          refine lv_goto (tgt := 47) hx hb dX11_sum_103 (by decide) ?_
          exact ih47 ls f_47 H locs v47_4 w23 z24 g47_oq_R g47_pq_R (show 40 - z24.toInt < _ by omega) (lv_cons hl 3 rfl (lv_cons hl 4 rfl (lv_cons hl 1 rfl (lv_cons hl 0 rfl (lv_nil hl))))) h t_47 o_47 (iv_w i5 (by decide)) (iv_w iz24 (by decide)) k47_u0_6 k47_u0_20 k47_u0_21 k47_bq_R k47_oq_R k47_pq_R (show 0 ≤ w23.toInt ∧ w23.toInt ≤ 1000003 * z24.toInt by omega) (show w23.toInt = alm (fun k : Int => (rb (10 * u1.toInt + k).toNat).toInt) u2.toInt u3.toInt (Int.toNat z24.toInt) from (by rw [alm_s (i := v47_7.toInt) (by omega) (by omega), ← hv47_1, ← pz8, ← pz10, ← mw12, ← mw13]; split <;> omega)) (show RC (fun k : Int => (rb (10 * u1.toInt + k).toNat).toInt) u2.toInt u3.toInt v47_4.toInt g47_oq_R g47_pq_R from hv47_2) (show z24.toInt ≤ v47_4.toInt by omega) (show v47_4.toInt = OG (fun k : Int => (rb (10 * u1.toInt + k).toNat).toInt) u2.toInt u3.toInt ∧ v47_4.toInt ≠ -1 by omega) (show 0 ≤ u1.toInt ∧ u1.toInt < (rb 80).toInt ∧ 1 ≤ u2.toInt ∧ u2.toInt ≤ 1000002 ∧ 1 ≤ u3.toInt ∧ u3.toInt ≤ 1000002 by omega)
  refine lv_aload_n hx hb dX11_sum_0 rfl (lv_at hl 0 rfl) ?_
  refine lv_iconst (v := 0) hx hb dX11_sum_1 (by decide) ?_
  refine t_put C h t o hu0 (by decide) (by decide) (by decide) wf_60 fw_60 (k := 0) rfl flw_X11_75 (Or.inr ⟨_, _, _, rfl, rfl⟩) (v := .int 0) rfl rfl ⟨_, rfl, ⟨by decide, by decide⟩⟩ dX11_sum_2 (fun f25 H locs h tf25 of25 hq ha_ hn_ hk_ => ?_)
  have k26 := hk_ 6 _ (by decide) k_u0_6
  have k27 := hk_ 20 _ (by decide) k_u0_20
  have k28 := hk_ 21 _ (by decide) k_u0_21
  have k29 := atp.tg hRbq hq hbq (by decide)
  have k30 := atp.tg hRoq hq hoq (by decide)
  have k31 := atp.tg hRpq hq hpq (by decide)
  have k32 := ha_
  refine lv_aload_n hx hb dX11_sum_5 rfl (lv_at hl 0 rfl) ?_
  refine lv_iload_n hx hb dX11_sum_6 rfl (lv_at hl 1 rfl) ?_
  obtain ⟨_, r33⟩ := t_rec tf25 hu0 (by decide) wf_60
  refine k_i (r_V C h hl (As := [.int u1]) (rest := []) (s_X11_isSetX l D G b0 τ f25 tf25 u0 hu0 u1 hu1 bq hbq k26 rb k29) r33 (Cn := RX11) (T := TX11) (N := 32) rfl rfl mk_X11_isSet w_1620 w_1622 w_51 w_1623 ⟨Nat.le_of_ble_eq_true rfl, Nat.le_of_ble_eq_true rfl⟩ rfl (Nat.le_of_ble_eq_true rfl) ⟨Nat.le_of_ble_eq_true rfl, Nat.le_of_ble_eq_true rfl⟩ rfl dX11_sum_7) h (fun r34 f35 H locs p36 h => ?_)
  obtain ⟨ir34, tf35, ogf35, cnr34, czr34⟩ := p36
  have egf35 := Fr.nil2 ogf35
  subst egf35
  refine lv_if_eq (tgt := 21) hx hb dX11_sum_10 (by decide) (fun c37 => ?_) (fun c37 => ?_)
  · have c38 : r34.toInt = 0 := congrArg Int32.toInt c37
    have i39 : iv r34 0 0 := iv_Q c38 ir34 (iv_k (x := 0) (k := 0) rfl) (by decide)
    have i40 := czr34 c38
    refine lv_bipush (v := -2) hx hb dX11_sum_21 (by decide) ?_
    exact u_iret C h hr hQ (⟨⟨by decide, by decide⟩, tf25, of25, ⟨fun z_ => absurd z_ (by omega), fun _ => rfl⟩⟩) (Nat.le_of_ble_eq_true rfl) (Nat.le_of_ble_eq_true rfl) dX11_sum_23
  · have c41 : r34.toInt ≠ 0 := fun z_ => c37 (Int32.toInt_inj.mp z_)
    have i42 : iv r34 1 1 := iv_Nl c41 ir34 (by decide)
    obtain ⟨i43, i44⟩ := cnr34 c41
    refine lv_iload_n hx hb dX11_sum_13 rfl (lv_at hl 2 rfl) ?_
    refine lv_iload_n hx hb dX11_sum_14 rfl (lv_at hl 3 rfl) ?_
    refine k_i (r_S C h hl (As := [.int u2, .int u3]) (rest := []) (s_X11_isFieldX l D G b0 τ f25 tf25 u2 hu2 u3 hu3) mk_X11_isField w_1869 w_1870 w_1871 ⟨Nat.le_of_ble_eq_true rfl, Nat.le_of_ble_eq_true rfl⟩ rfl (Nat.le_of_ble_eq_true rfl) ⟨Nat.le_of_ble_eq_true rfl, Nat.le_of_ble_eq_true rfl⟩ rfl dX11_sum_15) h (fun r45 f46 H locs p47 h => ?_)
    obtain ⟨ir45, tf46, ogf46, cnr45, czr45⟩ := p47
    have egf46 := Fr.nil2 ogf46
    subst egf46
    refine lv_if_ne (tgt := 24) hx hb dX11_sum_18 (by decide) (fun c48 => ?_) (fun c48 => ?_)
    · have c49 : r45.toInt ≠ 0 := fun z_ => c48 (Int32.toInt_inj.mp z_)
      have i50 : iv r45 1 1 := iv_Nl c49 ir45 (by decide)
      obtain ⟨i51, i52⟩ := cnr45 c49
      refine lv_aload_n hx hb dX11_sum_24 rfl (lv_at hl 0 rfl) ?_
      refine lv_iload_n hx hb dX11_sum_25 rfl (lv_at hl 1 rfl) ?_
      refine lv_iload_n hx hb dX11_sum_26 rfl (lv_at hl 2 rfl) ?_
      refine lv_iload_n hx hb dX11_sum_27 rfl (lv_at hl 3 rfl) ?_
      obtain ⟨_, r56⟩ := t_rec tf25 hu0 (by decide) wf_60
      refine k_i (r_V C h hl (As := [.int u1, .int u2, .int u3]) (rest := []) (s_X11_laysOrbitX l D G b0 τ f25 tf25 u0 hu0 u1 i43 u2 (iv_w i51 (by decide)) u3 (iv_w i52 (by decide)) bq hbq k26 oq hoq k27 pq hpq k28 rb k29 ro k30 rp k31) r56 (Cn := RX11) (T := TX11) (N := 32) rfl rfl mk_X11_laysOrbit w_1891 w_1893 w_73 w_1894 ⟨Nat.le_of_ble_eq_true rfl, Nat.le_of_ble_eq_true rfl⟩ rfl (Nat.le_of_ble_eq_true rfl) ⟨Nat.le_of_ble_eq_true rfl, Nat.le_of_ble_eq_true rfl⟩ rfl dX11_sum_28) h (fun r57 f58 H locs p59 h => ?_)
      obtain ⟨ir57, tf58, ogf58, x0r57, ⟨ro1_f58, rp1_f58, kRoqf58, kRpqf58, jtf58⟩⟩ := p59
      have of58 : Fr [60, 71, 81, 60001] τ f f58 := Fr.tr of25 ogf58 (by decide) (by decide)
      have k60 := atp.fr k26 ogf58 hu0 (by decide)
      have k61 := atp.fr k27 ogf58 hu0 (by decide)
      have k62 := atp.fr k28 ogf58 hu0 (by decide)
      have k63 := atp.fr k29 ogf58 hbq (by decide)
      refine lv_istore (lv' := [(4, .int r57), (0, .ref u0), (1, .int u1), (2, .int u2), (3, .int u3)]) hx hb dX11_sum_31 hl (by decide) rfl (fun ls hl => ?_)
      refine lv_iload hx hb dX11_sum_33 (lv_at hl 0 rfl) ?_
      refine lv_iconst (v := -1) hx hb dX11_sum_35 (by decide) ?_
      refine lv_icmp_ne (tgt := 41) hx hb dX11_sum_36 (by decide) (fun c64 => ?_) (fun c64 => ?_)
      · have c65 : r57.toInt ≠ (-1) := fun z_ => c64 (Int32.toInt_inj.mp z_)
        have i66 : iv r57 0 40 := iv_Nl c65 ir57 (by decide)
        refine lv_lconst (v := 0) hx hb dX11_sum_41 (by decide) ?_
        refine lv_lstore (lv' := [(5, .long 0), (4, .int r57), (0, .ref u0), (1, .int u1), (2, .int u2), (3, .int u3)]) hx hb dX11_sum_42 hl (by decide) rfl (fun ls hl => ?_)
        refine lv_iconst (v := 0) hx hb dX11_sum_44 (by decide) ?_
        refine lv_istore (lv' := [(7, .int 0), (5, .long 0), (4, .int r57), (0, .ref u0), (1, .int u1), (2, .int u2), (3, .int u3)]) hx hb dX11_sum_45 hl (by decide) rfl (fun ls hl => ?_)
        exact L47 41 ls f58 H locs r57 0 0 ro1_f58 rp1_f58 (by decide) (lv_cons hl 3 rfl (lv_cons hl 2 rfl (lv_cons hl 1 rfl (lv_cons hl 0 rfl (lv_nil hl))))) h tf58 of58 i66 ⟨by decide, by decide⟩ k60 k61 k62 k63 kRoqf58 kRpqf58 (show 0 ≤ 0 ∧ 0 ≤ 1000003 * 0 by omega) (show 0 = alm (fun k : Int => (rb (10 * u1.toInt + k).toNat).toInt) u2.toInt u3.toInt (Int.toNat 0) from (by rfl)) (show RC (fun k : Int => (rb (10 * u1.toInt + k).toNat).toInt) u2.toInt u3.toInt r57.toInt ro1_f58 rp1_f58 from (jtf58 (by omega))) (show 0 ≤ r57.toInt by omega) (show r57.toInt = OG (fun k : Int => (rb (10 * u1.toInt + k).toNat).toInt) u2.toInt u3.toInt ∧ r57.toInt ≠ -1 by omega) (show 0 ≤ u1.toInt ∧ u1.toInt < (rb 80).toInt ∧ 1 ≤ u2.toInt ∧ u2.toInt ≤ 1000002 ∧ 1 ≤ u3.toInt ∧ u3.toInt ≤ 1000002 by omega)
      · have c67 : r57.toInt = (-1) := congrArg Int32.toInt c64
        have i68 : iv r57 (-1) (-1) := iv_Q c67 ir57 (iv_k (x := (-1)) (k := (-1)) rfl) (by decide)
        refine lv_iconst (v := -1) hx hb dX11_sum_39 (by decide) ?_
        exact u_iret C h hr hQ (⟨⟨by decide, by decide⟩, tf58, of58, ⟨fun _ => (if_pos (by omega)).symm, fun z_ => absurd (by omega) z_⟩⟩) (Nat.le_of_ble_eq_true rfl) (Nat.le_of_ble_eq_true rfl) dX11_sum_40
    · have c53 : r45.toInt = 0 := congrArg Int32.toInt c48
      have i54 : iv r45 0 0 := iv_Q c53 ir45 (iv_k (x := 0) (k := 0) rfl) (by decide)
      have i55 := czr45 c53
      refine lv_bipush (v := -2) hx hb dX11_sum_21 (by decide) ?_
      exact u_iret C h hr hQ (⟨⟨by decide, by decide⟩, tf25, of25, ⟨fun z_ => absurd z_ (by omega), fun _ => rfl⟩⟩) (Nat.le_of_ble_eq_true rfl) (Nat.le_of_ble_eq_true rfl) dX11_sum_23
