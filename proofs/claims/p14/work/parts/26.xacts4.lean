theorem dX10_addMoved_0 : decode cX10_addMoved 0 = .ok (.aload_n 0, 1) := by decide +kernel
theorem dX10_addMoved_1 : decode cX10_addMoved 1 = .ok (.getfield 19, 3) := by decide +kernel
theorem dX10_addMoved_4 : decode cX10_addMoved 4 = .ok (.invokevirtual 98, 3) := by decide +kernel
theorem dX10_addMoved_7 : decode cX10_addMoved 7 = .ok (.ifCond .eq 9, 3) := by decide +kernel
theorem dX10_addMoved_16 : decode cX10_addMoved 16 = .ok (.bipush 8, 2) := by decide +kernel
theorem dX10_addMoved_18 : decode cX10_addMoved 18 = .ok (.newarray .int, 2) := by decide +kernel
theorem dX10_addMoved_20 : decode cX10_addMoved 20 = .ok (.astore 5, 2) := by decide +kernel
theorem dX10_addMoved_22 : decode cX10_addMoved 22 = .ok (.iconst 0, 1) := by decide +kernel
theorem dX10_addMoved_23 : decode cX10_addMoved 23 = .ok (.istore 6, 2) := by decide +kernel
theorem dX10_addMoved_10 : decode cX10_addMoved 10 = .ok (.aload_n 0, 1) := by decide +kernel
theorem dX10_addMoved_11 : decode cX10_addMoved 11 = .ok (.iconst 2, 1) := by decide +kernel
theorem dX10_addMoved_12 : decode cX10_addMoved 12 = .ok (.invokevirtual 95, 3) := by decide +kernel
theorem dX10_addMoved_25 : decode cX10_addMoved 25 = .ok (.iload 6, 2) := by decide +kernel
theorem dX10_addMoved_27 : decode cX10_addMoved 27 = .ok (.bipush 8, 2) := by decide +kernel
theorem dX10_addMoved_29 : decode cX10_addMoved 29 = .ok (.if_icmp .ge 23, 3) := by decide +kernel
theorem dX10_addMoved_32 : decode cX10_addMoved 32 = .ok (.aload 5, 2) := by decide +kernel
theorem dX10_addMoved_34 : decode cX10_addMoved 34 = .ok (.aload_n 2, 1) := by decide +kernel
theorem dX10_addMoved_35 : decode cX10_addMoved 35 = .ok (.iload 6, 2) := by decide +kernel
theorem dX10_addMoved_37 : decode cX10_addMoved 37 = .ok (.iaload, 1) := by decide +kernel
theorem dX10_addMoved_38 : decode cX10_addMoved 38 = .ok (.aload_n 1, 1) := by decide +kernel
theorem dX10_addMoved_39 : decode cX10_addMoved 39 = .ok (.getfield 135, 3) := by decide +kernel
theorem dX10_addMoved_42 : decode cX10_addMoved 42 = .ok (.iload 6, 2) := by decide +kernel
theorem dX10_addMoved_44 : decode cX10_addMoved 44 = .ok (.iaload, 1) := by decide +kernel
theorem dX10_addMoved_45 : decode cX10_addMoved 45 = .ok (.iastore, 1) := by decide +kernel
theorem dX10_addMoved_46 : decode cX10_addMoved 46 = .ok (.iinc 6 1, 3) := by decide +kernel
theorem dX10_addMoved_49 : decode cX10_addMoved 49 = .ok (.goto (-24), 3) := by decide +kernel
theorem dX10_addMoved_52 : decode cX10_addMoved 52 = .ok (.aload_n 0, 1) := by decide +kernel
theorem dX10_addMoved_53 : decode cX10_addMoved 53 = .ok (.getfield 19, 3) := by decide +kernel
theorem dX10_addMoved_56 : decode cX10_addMoved 56 = .ok (.new 121, 3) := by decide +kernel
theorem dX10_addMoved_59 : decode cX10_addMoved 59 = .ok (.dup, 1) := by decide +kernel
theorem dX10_addMoved_60 : decode cX10_addMoved 60 = .ok (.aload 5, 2) := by decide +kernel
theorem dX10_addMoved_62 : decode cX10_addMoved 62 = .ok (.iload_n 3, 1) := by decide +kernel
theorem dX10_addMoved_63 : decode cX10_addMoved 63 = .ok (.iload 4, 2) := by decide +kernel
theorem dX10_addMoved_65 : decode cX10_addMoved 65 = .ok (.invokespecial 142, 3) := by decide +kernel
theorem dX10_addMoved_68 : decode cX10_addMoved 68 = .ok (.invokevirtual 106, 3) := by decide +kernel
theorem dX10_addMoved_71 : decode cX10_addMoved 71 = .ok (.ireturn, 1) := by decide +kernel
theorem dX10_addMoved_15 : decode cX10_addMoved 15 = .ok (.ireturn, 1) := by decide +kernel
theorem dX10_mirror_0 : decode cX10_mirror 0 = .ok (.aload_n 0, 1) := by decide +kernel
theorem dX10_mirror_1 : decode cX10_mirror 1 = .ok (.getfield 19, 3) := by decide +kernel
theorem dX10_mirror_4 : decode cX10_mirror 4 = .ok (.iload_n 1, 1) := by decide +kernel
theorem dX10_mirror_5 : decode cX10_mirror 5 = .ok (.invokevirtual 110, 3) := by decide +kernel
theorem dX10_mirror_8 : decode cX10_mirror 8 = .ok (.astore_n 2, 1) := by decide +kernel
theorem dX10_mirror_9 : decode cX10_mirror 9 = .ok (.aload_n 2, 1) := by decide +kernel
theorem dX10_mirror_10 : decode cX10_mirror 10 = .ok (.ifnonnull 11, 3) := by decide +kernel
theorem dX10_mirror_13 : decode cX10_mirror 13 = .ok (.aload_n 0, 1) := by decide +kernel
theorem dX10_mirror_14 : decode cX10_mirror 14 = .ok (.iconst 0, 1) := by decide +kernel
theorem dX10_mirror_15 : decode cX10_mirror 15 = .ok (.invokevirtual 95, 3) := by decide +kernel
theorem dX10_mirror_18 : decode cX10_mirror 18 = .ok (.goto 19, 3) := by decide +kernel
theorem dX10_mirror_21 : decode cX10_mirror 21 = .ok (.aload_n 0, 1) := by decide +kernel
theorem dX10_mirror_22 : decode cX10_mirror 22 = .ok (.aload_n 2, 1) := by decide +kernel
theorem dX10_mirror_23 : decode cX10_mirror 23 = .ok (.getstatic 117, 3) := by decide +kernel
theorem w_607 : Cond.fieldLink "QuarterWalks" 117 "QuarterWalks" "MIRRORED" "[I" ∈ wAll := wI3 32 (by decide +kernel) (by decide +kernel)
theorem dX10_mirror_26 : decode cX10_mirror 26 = .ok (.aload_n 2, 1) := by decide +kernel
theorem dX10_mirror_27 : decode cX10_mirror 27 = .ok (.getfield 120, 3) := by decide +kernel
theorem dX10_mirror_30 : decode cX10_mirror 30 = .ok (.aload_n 2, 1) := by decide +kernel
theorem dX10_mirror_31 : decode cX10_mirror 31 = .ok (.getfield 125, 3) := by decide +kernel
theorem dX10_mirror_34 : decode cX10_mirror 34 = .ok (.invokevirtual 128, 3) := by decide +kernel
theorem w_609 : Cond.methodLink "QuarterWalks" 128 yX10_addMoved ∈ wAll := wI3 34 (by decide +kernel) (by decide +kernel)
theorem w_10 : Cond.selects yX10_addMoved.cls yX10_addMoved yX10_addMoved ∈ wAll := wIn 10 (by decide +kernel) (by decide +kernel)
theorem mk_X10_addMoved : mk yX10_addMoved 4 := ⟨by decide +kernel, w_96⟩
theorem w_611 : Cond.instanceMethod yX10_addMoved ∈ wAll := wI3 36 (by decide +kernel) (by decide +kernel)
theorem w_612 : Cond.code yX10_addMoved cX10_addMoved 7 (some .int) ∈ wAll := wI3 37 (by decide +kernel) (by decide +kernel)
theorem dX10_mirror_37 : decode cX10_mirror 37 = .ok (.ireturn, 1) := by decide +kernel
theorem dX10_turn_0 : decode cX10_turn 0 = .ok (.aload_n 0, 1) := by decide +kernel
theorem dX10_turn_1 : decode cX10_turn 1 = .ok (.getfield 19, 3) := by decide +kernel
theorem dX10_turn_4 : decode cX10_turn 4 = .ok (.iload_n 1, 1) := by decide +kernel
theorem dX10_turn_5 : decode cX10_turn 5 = .ok (.invokevirtual 110, 3) := by decide +kernel
theorem dX10_turn_8 : decode cX10_turn 8 = .ok (.astore_n 2, 1) := by decide +kernel
theorem dX10_turn_9 : decode cX10_turn 9 = .ok (.aload_n 2, 1) := by decide +kernel
theorem dX10_turn_10 : decode cX10_turn 10 = .ok (.ifnonnull 11, 3) := by decide +kernel
theorem dX10_turn_13 : decode cX10_turn 13 = .ok (.aload_n 0, 1) := by decide +kernel
theorem dX10_turn_14 : decode cX10_turn 14 = .ok (.iconst 0, 1) := by decide +kernel
theorem dX10_turn_15 : decode cX10_turn 15 = .ok (.invokevirtual 95, 3) := by decide +kernel
theorem dX10_turn_18 : decode cX10_turn 18 = .ok (.goto 19, 3) := by decide +kernel
theorem dX10_turn_21 : decode cX10_turn 21 = .ok (.aload_n 0, 1) := by decide +kernel
theorem dX10_turn_22 : decode cX10_turn 22 = .ok (.aload_n 2, 1) := by decide +kernel
theorem dX10_turn_23 : decode cX10_turn 23 = .ok (.getstatic 132, 3) := by decide +kernel
theorem w_619 : Cond.fieldLink "QuarterWalks" 132 "QuarterWalks" "OPPOSITE" "[I" ∈ wAll := wI3 44 (by decide +kernel) (by decide +kernel)
theorem dX10_turn_26 : decode cX10_turn 26 = .ok (.aload_n 2, 1) := by decide +kernel
theorem dX10_turn_27 : decode cX10_turn 27 = .ok (.getfield 125, 3) := by decide +kernel
theorem dX10_turn_30 : decode cX10_turn 30 = .ok (.aload_n 2, 1) := by decide +kernel
theorem dX10_turn_31 : decode cX10_turn 31 = .ok (.getfield 120, 3) := by decide +kernel
theorem dX10_turn_34 : decode cX10_turn 34 = .ok (.invokevirtual 128, 3) := by decide +kernel
theorem dX10_turn_37 : decode cX10_turn 37 = .ok (.ireturn, 1) := by decide +kernel
abbrev rm_s_X10_addMovedXmi : Room := { frames := 3, cells := 3, slots := 20, locals := 63 }
set_option maxRecDepth 100000 in
set_option maxHeartbeats 4000000 in
theorem s_X10_addMovedXmi (l : Launch) (D : va_G) (G : Nat → Nat) (b0 : Nat) (τ : Nat → Nat) (f : hM) (t : TI G 9 τ f) (u0 : Nat) (hu0 : τ u0 = 10) (u1 : Nat) (hu1 : τ u1 = 1) (u3 : Int32) (hu3 : iv u3 0 9) (u4 : Int32) (hu4 : iv u4 0 9) (sq : Nat) (hsq : τ sq = 18) (bo : Nat) (hbo : τ bo = 12) (k_u0_1 : atp f u0 (fd 1 (.ref bo))) (fq : Nat) (hfq : τ fq = 50) (k_u0_7 : atp f u0 (fd 7 (.ref fq))) (ac : Int32) (hac : iv ac 0 12) (k_bo_0 : atp f bo (fd 0 (.int ac))) (nx : Int32) (hnx : iv nx 0 11) (k_bo_5 : atp f bo (fd 5 (.int nx))) (sn : Nat) (hsn : τ sn = 15) (k_bo_1 : atp f bo (fd 1 (.ref sn))) (bf : Nat) (hbf : τ bf = 17) (k_bo_3 : atp f bo (fd 3 (.ref bf))) (qn : Nat) (hqn : τ qn = 4) (k_sn_0 : atp f sn (fd 0 (.ref qn))) (sz : Int32) (hsz : iv sz 0 8) (k_sn_1 : atp f sn (fd 1 (.int sz))) (qa : Nat) (hqa : τ qa = 4) (k_sq_0 : atp f sq (fd 0 (.ref qa))) (sa : Int32) (hsa : iv sa 0 8) (k_sq_1 : atp f sq (fd 1 (.int sa))) (wq : Nat) (hwq : τ wq = 2) (k_u1_0 : atp f u1 (fd 0 (.ref wq))) (rn : Nat → Option Nat) (hRqn : atp f qn (eqr G 4 8 rn)) (rf : Nat → Option Nat) (hRbf : atp f bf (eqr G 3 12 rf)) (ra : Nat → Option Nat) (hRqa : atp f qa (eqr G 4 8 ra)) (rq : Nat → Int32) (hRfq : atp f fq (eqc (.inl (G 1, 4, .inl rq)))) (ww : Nat → Int32) (hRwq : atp f wq (eqc (.inl (G 1, 8, .inl ww)))) (esq : rf nx.toInt.toNat = some sq) (hab : qn ≠ qa)  : mI l yX10_addMoved cX10_addMoved 7 (.int) rm_s_X10_addMovedXmi D G b0 f [.ref u0, .ref u1, .ref (G (60 + 2)), .int u3, .int u4] (fun r f1 => (∃ τ1, Ex τ τ1 ∧ iv r (-1) 8 ∧ TI G 9 τ1 f1 ∧ Fr [0, 4, 12, 15, 18, 50, 54, 12001, 12006, 15002, 18002] τ f f1 ∧ ((((sz.toInt ≤ 7)) → r.toInt = sz.toInt) ∧ (¬ ((sz.toInt ≤ 7)) → r.toInt = -1)) ∧ (∃ nx1 : Int32, atp f1 bo (fd 5 (.int nx1)) ∧ iv nx1 0 11 ∧ (((sz.toInt ≤ 7)) → nx1.toInt = (nx.toInt + 1) % 12) ∧ (¬ ((sz.toInt ≤ 7)) → nx1.toInt = nx.toInt)) ∧ (∃ ac1 : Int32, atp f1 bo (fd 0 (.int ac1)) ∧ iv ac1 0 12 ∧ (((sz.toInt ≤ 7)) → ((ac.toInt = 12 → ac1.toInt = 12) ∧ (ac.toInt ≠ 12 → ac1.toInt = ac.toInt + 1))) ∧ (¬ ((sz.toInt ≤ 7)) → ac1.toInt = ac.toInt)) ∧ (∃ szn : Int32, atp f1 sn (fd 1 (.int szn)) ∧ iv szn 0 8 ∧ (((sz.toInt ≤ 7)) → szn.toInt = sz.toInt + 1) ∧ (¬ ((sz.toInt ≤ 7)) → szn.toInt = sz.toInt)) ∧ (∃ sza : Int32, atp f1 sq (fd 1 (.int sza)) ∧ iv sza 0 8 ∧ (((sz.toInt ≤ 7)) → sza.toInt = sz.toInt) ∧ (¬ ((sz.toInt ≤ 7)) → sza.toInt = sa.toInt)) ∧ (∃ ra1 : Nat → Option Nat, atp f1 qa (eqr G 4 8 ra1) ∧ ((((sz.toInt ≤ 7)) → ∀ k : Nat, k < 8 → ra1 k = rn k) ∧ (¬ ((sz.toInt ≤ 7)) → ra1 = ra))) ∧ (∃ rn1 : Nat → Option Nat, atp f1 qn (eqr G 4 8 rn1) ∧ ((((sz.toInt ≤ 7)) → ∃ z, SO G τ1 f1 z (mvd false ww u3 u4) ∧ ∀ k : Nat, rn1 k = if k = sz.toInt.toNat then some z else rn k) ∧ (¬ ((sz.toInt ≤ 7)) → rn1 = rn))) ∧ (∃ rq1 : Nat → Int32, atp f1 fq (eqc (.inl (G 1, 4, .inl rq1))) ∧ (∀ k : Nat, k < 4 → rq1 k = if (k : Int) = (if ¬ (sz.toInt ≤ 7) then 2 else -1) then rq k + 1 else rq k)) ∧ FX [qa, sq, bo, qn, sn, fq] f f1)) := by
  refine met2 (own := RX10) (by decide) rfl (Nat.le_of_ble_eq_true rfl) ?_
  intro p e s m args below meth c ls Q hQ C hr hini hl h
  have hl : lv_has ls 7 [(0, .ref u0), (1, .ref u1), (2, .ref (G (60 + 2))), (3, .int u3), (4, .int u4)] := hl
  obtain ⟨hx, hb, hml, hown, hts, hE0, hlk⟩ := id C
  have o := Fr.rf [0, 4, 12, 15, 18, 50, 54, 12001, 12006, 15002, 18002] τ f
  have hfx := FX.rf [qa, sq, bo, qn, sn, fq] f
  refine lv_aload_n hx hb dX10_addMoved_0 rfl (lv_at hl 0 rfl) ?_
  refine t_getfd C h t hu0 (by decide) wf_10 (v := .ref bo) k_u0_1 fl_X10_19 dX10_addMoved_1 ?_
  obtain ⟨_, ra_1⟩ := t_rec t hbo (by decide) wf_12
  refine k_i (r_V C h hl (As := []) (rest := []) (s_X0_isFullX l D G b0 τ f t bo hbo sn hsn k_bo_1 qn hqn k_sn_0 sz hsz k_sn_1) ra_1 (Cn := RX0) (T := TX0) (N := 6) rfl rfl mk_X0_isFull w_523 w_524 w_525 w_526 ⟨Nat.le_of_ble_eq_true rfl, Nat.le_of_ble_eq_true rfl⟩ rfl (Nat.le_of_ble_eq_true rfl) ⟨Nat.le_of_ble_eq_true rfl, Nat.le_of_ble_eq_true rfl⟩ rfl dX10_addMoved_4) h (fun ra_2 fa_3 H locs pa_4 h => ?_)
  obtain ⟨ira_2, tfa_3, ogfa_3, cnra_2, czra_2⟩ := pa_4
  have egfa_3 := Fr.nil2 ogfa_3
  subst egfa_3
  refine lv_if_eq (tgt := 16) hx hb dX10_addMoved_7 (by decide) (fun ca_5 => ?_) (fun ca_5 => ?_)
  · have ca_6 : ra_2.toInt = 0 := congrArg Int32.toInt ca_5
    have ia_7 : iv ra_2 0 0 := iv_Q ca_6 ira_2 (iv_k (x := 0) (k := 0) rfl) (by decide)
    have ia_8 := czra_2 ca_6
    refine lv_bipush (v := 8) hx hb dX10_addMoved_16 (by decide) ?_
    refine q_newa C h (atype := .int) 1 rfl rfl rfl w_161 (a0 := (8, .inl (fun _ => 0))) (fun _ => rfl) (by decide) (N' := 8) (by decide) (Nat.le_of_ble_eq_true rfl) (Nat.le_of_ble_eq_true rfl) (Nat.le_of_ble_eq_true rfl) dX10_addMoved_18 (fun nw H nnw h => ?_)
    have nfnw := nfr hfx nnw
    have tfa_10 := TI.new (tg := 54) (e := (.inl (G 1, 8, .inl (fun _ => 0)))) t nnw (fw_54 _ ⟨_, rfl, fun j => ⟨by decide, by decide⟩⟩)
    have esnw : Ex τ (tu τ nw 54) := TI.newEx t nnw
    have ozfa_10 : Fr [0, 4, 12, 15, 18, 50, 54, 12001, 12006, 15002, 18002] τ f (hu f nw (.inl (G 1, 8, .inl (fun _ => 0)))) := Fr.new o nnw (TI.zero t nnw) (by decide)
    have tqnw : tu τ nw 54 nw = 54 := tu_self _ _ _
    generalize tu τ nw 54 = τnw at tfa_10 esnw tqnw
    have ka_11 := atp.new k_u0_1 nnw (e := (.inl (G 1, 8, .inl (fun _ => 0))))
    have ka_12 := atp.new k_u0_7 nnw (e := (.inl (G 1, 8, .inl (fun _ => 0))))
    have ka_13 := atp.new k_bo_0 nnw (e := (.inl (G 1, 8, .inl (fun _ => 0))))
    have ka_14 := atp.new k_bo_5 nnw (e := (.inl (G 1, 8, .inl (fun _ => 0))))
    have ka_15 := atp.new k_bo_1 nnw (e := (.inl (G 1, 8, .inl (fun _ => 0))))
    have ka_16 := atp.new k_bo_3 nnw (e := (.inl (G 1, 8, .inl (fun _ => 0))))
    have ka_17 := atp.new k_sn_0 nnw (e := (.inl (G 1, 8, .inl (fun _ => 0))))
    have ka_18 := atp.new k_sn_1 nnw (e := (.inl (G 1, 8, .inl (fun _ => 0))))
    have ka_19 := atp.new k_sq_0 nnw (e := (.inl (G 1, 8, .inl (fun _ => 0))))
    have ka_20 := atp.new k_sq_1 nnw (e := (.inl (G 1, 8, .inl (fun _ => 0))))
    have ka_21 := atp.new k_u1_0 nnw (e := (.inl (G 1, 8, .inl (fun _ => 0))))
    have ka_22 := atp.new hRqn nnw (e := (.inl (G 1, 8, .inl (fun _ => 0))))
    have ka_23 := atp.new hRbf nnw (e := (.inl (G 1, 8, .inl (fun _ => 0))))
    have ka_24 := atp.new hRqa nnw (e := (.inl (G 1, 8, .inl (fun _ => 0))))
    have ka_25 := atp.new hRfq nnw (e := (.inl (G 1, 8, .inl (fun _ => 0))))
    have ka_26 := atp.new hRwq nnw (e := (.inl (G 1, 8, .inl (fun _ => 0))))
    have ka_27 := FX.new hfx nnw (e := (.inl (G 1, 8, .inl (fun _ => 0))))
    have kRnw : atp (hu f nw (.inl (G 1, 8, .inl (fun _ => 0)))) nw (eqc (.inl (G 1, 8, .inl (fun _ => 0)))) := ⟨_, hu_self _ _ _, rfl⟩
    generalize hu f nw (.inl (G 1, 8, .inl (fun _ => 0))) = fa_10 at h tfa_10 ozfa_10 ka_11 ka_12 ka_13 ka_14 ka_15 ka_16 ka_17 ka_18 ka_19 ka_20 ka_21 ka_22 ka_23 ka_24 ka_25 ka_26 ka_27 kRnw
    have Ofa_10 : Fr [0, 4, 12, 15, 18, 50, 54, 12001, 12006, 15002, 18002] τ f fa_10 := ozfa_10
    have xfa_10 : Ex τ τnw := esnw
    have ha_28 : τnw u0 = 10 := Ex.at esnw hu0 (by decide)
    have ha_29 : τnw u1 = 1 := Ex.at esnw hu1 (by decide)
    have ha_30 : τnw bo = 12 := Ex.at esnw hbo (by decide)
    have ha_31 : τnw fq = 50 := Ex.at esnw hfq (by decide)
    have ha_32 : τnw sn = 15 := Ex.at esnw hsn (by decide)
    have ha_33 : τnw bf = 17 := Ex.at esnw hbf (by decide)
    have ha_34 : τnw qn = 4 := Ex.at esnw hqn (by decide)
    have ha_35 : τnw qa = 4 := Ex.at esnw hqa (by decide)
    have ha_36 : τnw wq = 2 := Ex.at esnw hwq (by decide)
    have ha_37 : τnw sq = 18 := Ex.at esnw hsq (by decide)
    have ofa_10z := Fr.rf [0, 4, 12, 15, 18, 50, 54, 12001, 12006, 15002, 18002] τnw fa_10
    refine lv_astore (lv' := [(5, .ref nw), (0, .ref u0), (1, .ref u1), (2, .ref (G (60 + 2))), (3, .int u3), (4, .int u4)]) hx hb dX10_addMoved_20 hl (by decide) rfl (fun ls hl => ?_)
    refine lv_iconst (v := 0) hx hb dX10_addMoved_22 (by decide) ?_
    refine lv_istore (lv' := [(6, .int 0), (5, .ref nw), (0, .ref u0), (1, .ref u1), (2, .ref (G (60 + 2))), (3, .int u3), (4, .int u4)]) hx hb dX10_addMoved_23 hl (by decide) rfl (fun ls hl => ?_)
    have L25 : ∀ (n25 : Nat) (ls : Array Slot) (f_25 : hM) (H : Heap) (locs : List Loc) (v25_6 : Int32) (g25_nw_R : Nat → Int32), 8 - v25_6.toInt < (n25 : Int) → lv_has ls 7 [(0, .ref u0), (1, .ref u1), (2, .ref (G (60 + 2))), (3, .int u3), (4, .int u4), (5, .ref nw), (6, .int v25_6)] → hw D b0 s.heap f_25 H locs → TI G 9 τnw f_25 → Fr [0, 4, 12, 15, 18, 50, 54, 12001, 12006, 15002, 18002] τnw fa_10 f_25 → iv u3 0 9 → iv u4 0 9 → iv v25_6 0 8 → iv ac 0 12 → iv nx 0 11 → iv sz 0 8 → iv sa 0 8 → atp f_25 u0 (fd 1 (.ref bo)) → atp f_25 u0 (fd 7 (.ref fq)) → atp f_25 bo (fd 0 (.int ac)) → atp f_25 bo (fd 5 (.int nx)) → atp f_25 bo (fd 1 (.ref sn)) → atp f_25 bo (fd 3 (.ref bf)) → atp f_25 sn (fd 0 (.ref qn)) → atp f_25 sn (fd 1 (.int sz)) → atp f_25 sq (fd 0 (.ref qa)) → atp f_25 sq (fd 1 (.int sa)) → atp f_25 u1 (fd 0 (.ref wq)) → atp f_25 qn (eqr G 4 8 rn) → atp f_25 bf (eqr G 3 12 rf) → atp f_25 qa (eqr G 4 8 ra) → atp f_25 fq (eqc (.inl (G 1, 4, .inl rq))) → atp f_25 wq (eqc (.inl (G 1, 8, .inl ww))) → FX [qa, sq, bo, qn, sn, fq] f f_25 → atp f_25 nw (eqc (.inl (G 1, 8, .inl g25_nw_R))) → (∀ k : Nat, g25_nw_R k = if k < 8 ∧ ((10 - (k : Int)) % 8) < v25_6.toInt then ww ((10 - (k : Int)) % 8).toNat else 0) → W p l e rm_s_X10_addMovedXmi s m args below meth c H locs 1 8 Q (F0 m 25 ls []) := by
      intro n25
      induction n25 with
      | zero => intro ls f_25 H locs v25_6 g25_nw_R hm25 hl h t_25 o_25 jv25_3 jv25_4 iv25_6 jg25_bo_0 jg25_bo_5 jg25_sn_1 jg25_sq_1 k25_u0_1 k25_u0_7 k25_bo_0 k25_bo_5 k25_bo_1 k25_bo_3 k25_sn_0 k25_sn_1 k25_sq_0 k25_sq_1 k25_u1_0 k25_qn_R k25_bf_R k25_qa_R k25_fq_R k25_wq_R k25_fx_FX k25_nw_R hv25_0; exact absurd hm25 (by omega)
      | succ n25 ih25 =>
        intro ls f_25 H locs v25_6 g25_nw_R hm25 hl h t_25 o_25 jv25_3 jv25_4 iv25_6 jg25_bo_0 jg25_bo_5 jg25_sn_1 jg25_sq_1 k25_u0_1 k25_u0_7 k25_bo_0 k25_bo_5 k25_bo_1 k25_bo_3 k25_sn_0 k25_sn_1 k25_sq_0 k25_sq_1 k25_u1_0 k25_qn_R k25_bf_R k25_qa_R k25_fq_R k25_wq_R k25_fx_FX k25_nw_R hv25_0
        refine lv_iload hx hb dX10_addMoved_25 (lv_at hl 6 rfl) ?_
        refine lv_bipush (v := 8) hx hb dX10_addMoved_27 (by decide) ?_
        refine lv_icmp_ge (tgt := 52) hx hb dX10_addMoved_29 (by decide) (fun cab25_1 => ?_) (fun cab25_1 => ?_)
        · have cab25_2 : 8 ≤ v25_6.toInt := Int32.le_iff_toInt_le.mp cab25_1
          have iab25_3 : iv v25_6 8 8 := iv_Er cab25_2 (iv_k (x := 8) (k := 8) rfl) iv25_6 (by decide)
          refine lv_aload_n hx hb dX10_addMoved_52 rfl (lv_at hl 0 rfl) ?_
          refine t_getfd C h t_25 ha_28 (by decide) wf_10 (v := .ref bo) k25_u0_1 fl_X10_19 dX10_addMoved_53 ?_
          refine q_new C h nw_X10_121 (Nat.le_of_ble_eq_true rfl) (Nat.le_of_ble_eq_true rfl) dX10_addMoved_56 (fun qab25_4 H nqab25_4 h => ?_)
          have tzqab25_4 := TI.zero t_25 nqab25_4
          have tfab25_5 := TI.raw (e := (.inr (7, [.null, .int 0, .int 0, .null]))) t_25 tzqab25_4
          have ofab25_5 : Fr [0, 4, 12, 15, 18, 50, 54, 12001, 12006, 15002, 18002] τnw fa_10 (hu f_25 qab25_4 (.inr (7, [.null, .int 0, .int 0, .null]))) := Fr.new o_25 nqab25_4 tzqab25_4 (by decide)
          have nfqab25_4 := nfr k25_fx_FX nqab25_4
          have rwqab25_4 : hu f_25 qab25_4 (.inr (7, [.null, .int 0, .int 0, .null])) qab25_4 = some (.inr (7, [.null, .int 0, .int 0, .null])) := hu_self _ _ _
          have kab25_6 := atp.new k25_u0_1 nqab25_4 (e := (.inr (7, [.null, .int 0, .int 0, .null])))
          have kab25_7 := atp.new k25_u0_7 nqab25_4 (e := (.inr (7, [.null, .int 0, .int 0, .null])))
          have kab25_8 := atp.new k25_bo_0 nqab25_4 (e := (.inr (7, [.null, .int 0, .int 0, .null])))
          have kab25_9 := atp.new k25_bo_5 nqab25_4 (e := (.inr (7, [.null, .int 0, .int 0, .null])))
          have kab25_10 := atp.new k25_bo_1 nqab25_4 (e := (.inr (7, [.null, .int 0, .int 0, .null])))
          have kab25_11 := atp.new k25_bo_3 nqab25_4 (e := (.inr (7, [.null, .int 0, .int 0, .null])))
          have kab25_12 := atp.new k25_sn_0 nqab25_4 (e := (.inr (7, [.null, .int 0, .int 0, .null])))
          have kab25_13 := atp.new k25_sn_1 nqab25_4 (e := (.inr (7, [.null, .int 0, .int 0, .null])))
          have kab25_14 := atp.new k25_sq_0 nqab25_4 (e := (.inr (7, [.null, .int 0, .int 0, .null])))
          have kab25_15 := atp.new k25_sq_1 nqab25_4 (e := (.inr (7, [.null, .int 0, .int 0, .null])))
          have kab25_16 := atp.new k25_u1_0 nqab25_4 (e := (.inr (7, [.null, .int 0, .int 0, .null])))
          have kab25_17 := atp.new k25_qn_R nqab25_4 (e := (.inr (7, [.null, .int 0, .int 0, .null])))
          have kab25_18 := atp.new k25_bf_R nqab25_4 (e := (.inr (7, [.null, .int 0, .int 0, .null])))
          have kab25_19 := atp.new k25_qa_R nqab25_4 (e := (.inr (7, [.null, .int 0, .int 0, .null])))
          have kab25_20 := atp.new k25_fq_R nqab25_4 (e := (.inr (7, [.null, .int 0, .int 0, .null])))
          have kab25_21 := atp.new k25_wq_R nqab25_4 (e := (.inr (7, [.null, .int 0, .int 0, .null])))
          have kab25_22 := FX.new k25_fx_FX nqab25_4 (e := (.inr (7, [.null, .int 0, .int 0, .null])))
          have kab25_23 := atp.new k25_nw_R nqab25_4 (e := (.inr (7, [.null, .int 0, .int 0, .null])))
          generalize hu f_25 qab25_4 (.inr (7, [.null, .int 0, .int 0, .null])) = fab25_5 at h tfab25_5 ofab25_5 rwqab25_4 kab25_6 kab25_7 kab25_8 kab25_9 kab25_10 kab25_11 kab25_12 kab25_13 kab25_14 kab25_15 kab25_16 kab25_17 kab25_18 kab25_19 kab25_20 kab25_21 kab25_22 kab25_23
          refine lv_dup hx hb dX10_addMoved_59 rfl ?_
          refine lv_aload hx hb dX10_addMoved_60 (lv_at hl 5 rfl) ?_
          refine lv_iload_n hx hb dX10_addMoved_62 rfl (lv_at hl 3 rfl) ?_
          refine lv_iload hx hb dX10_addMoved_63 (lv_at hl 4 rfl) ?_
          refine k_v (r_I C h hl (As := [.ref nw, .int u3, .int u4]) (rest := [.ref qab25_4, .ref bo]) (c_StepSet l D G b0 fab25_5 qab25_4 nw g25_nw_R u3 u4 rwqab25_4 (eqc_some kab25_23)) mk_X6_init rfl w_614 w_534 w_535 ⟨Nat.le_of_ble_eq_true rfl, Nat.le_of_ble_eq_true rfl⟩ rfl (Nat.le_of_ble_eq_true rfl) ⟨Nat.le_of_ble_eq_true rfl, Nat.le_of_ble_eq_true rfl⟩ rfl dX10_addMoved_65) h (fun fab25_24 H locs pfab25_24 h => ?_)
          obtain ⟨qab25_25, nqab25_25, efab25_24⟩ := pfab25_24
          obtain ⟨τfab25_24, exfab25_24, tfab25_24, ofab25_24, tqqab25_4, tqqab25_25, kafab25_24, kbfab25_24, kcfab25_24, kdfab25_24, hnfab25_24, kefab25_24⟩ := mkset tfab25_5 ofab25_5 (by decide) tzqab25_4 rwqab25_4 nqab25_25 efab25_24 (fun j_ => by
              rw [hv25_0 j_]; split
              · exact row_iv2 tfab25_5 ha_36 kab25_21 _
              · exact ⟨by decide, by decide⟩) jv25_3 jv25_4
          have kab25_26 := atp.tr kab25_6 (hnfab25_24 _ (fun z_ => by have h_ := ha_28; rw [z_, tzqab25_4] at h_; exact absurd h_ (by decide)) (atp.nn kab25_6))
          have kab25_27 := atp.tr kab25_7 (hnfab25_24 _ (fun z_ => by have h_ := ha_28; rw [z_, tzqab25_4] at h_; exact absurd h_ (by decide)) (atp.nn kab25_7))
          have kab25_28 := atp.tr kab25_8 (hnfab25_24 _ (fun z_ => by have h_ := ha_30; rw [z_, tzqab25_4] at h_; exact absurd h_ (by decide)) (atp.nn kab25_8))
          have kab25_29 := atp.tr kab25_9 (hnfab25_24 _ (fun z_ => by have h_ := ha_30; rw [z_, tzqab25_4] at h_; exact absurd h_ (by decide)) (atp.nn kab25_9))
          have kab25_30 := atp.tr kab25_10 (hnfab25_24 _ (fun z_ => by have h_ := ha_30; rw [z_, tzqab25_4] at h_; exact absurd h_ (by decide)) (atp.nn kab25_10))
          have kab25_31 := atp.tr kab25_11 (hnfab25_24 _ (fun z_ => by have h_ := ha_30; rw [z_, tzqab25_4] at h_; exact absurd h_ (by decide)) (atp.nn kab25_11))
          have kab25_32 := atp.tr kab25_12 (hnfab25_24 _ (fun z_ => by have h_ := ha_32; rw [z_, tzqab25_4] at h_; exact absurd h_ (by decide)) (atp.nn kab25_12))
          have kab25_33 := atp.tr kab25_13 (hnfab25_24 _ (fun z_ => by have h_ := ha_32; rw [z_, tzqab25_4] at h_; exact absurd h_ (by decide)) (atp.nn kab25_13))
          have kab25_34 := atp.tr kab25_14 (hnfab25_24 _ (fun z_ => by have h_ := ha_37; rw [z_, tzqab25_4] at h_; exact absurd h_ (by decide)) (atp.nn kab25_14))
          have kab25_35 := atp.tr kab25_15 (hnfab25_24 _ (fun z_ => by have h_ := ha_37; rw [z_, tzqab25_4] at h_; exact absurd h_ (by decide)) (atp.nn kab25_15))
          have kab25_36 := atp.tr kab25_16 (hnfab25_24 _ (fun z_ => by have h_ := ha_29; rw [z_, tzqab25_4] at h_; exact absurd h_ (by decide)) (atp.nn kab25_16))
          have kab25_37 := atp.tr kab25_17 (hnfab25_24 _ (fun z_ => by have h_ := ha_34; rw [z_, tzqab25_4] at h_; exact absurd h_ (by decide)) (atp.nn kab25_17))
          have kab25_38 := atp.tr kab25_18 (hnfab25_24 _ (fun z_ => by have h_ := ha_33; rw [z_, tzqab25_4] at h_; exact absurd h_ (by decide)) (atp.nn kab25_18))
          have kab25_39 := atp.tr kab25_19 (hnfab25_24 _ (fun z_ => by have h_ := ha_35; rw [z_, tzqab25_4] at h_; exact absurd h_ (by decide)) (atp.nn kab25_19))
          have kab25_40 := atp.tr kab25_20 (hnfab25_24 _ (fun z_ => by have h_ := ha_31; rw [z_, tzqab25_4] at h_; exact absurd h_ (by decide)) (atp.nn kab25_20))
          have kab25_41 := atp.tr kab25_21 (hnfab25_24 _ (fun z_ => by have h_ := ha_36; rw [z_, tzqab25_4] at h_; exact absurd h_ (by decide)) (atp.nn kab25_21))
          have kab25_42 : FX [qa, sq, bo, qn, sn, fq] f fab25_24 := fun q_ hq_ h0_ => by have e_ := kab25_22 q_ hq_ h0_; rw [hnfab25_24 q_ (nfqab25_4 q_ hq_ h0_) (by rw [e_]; exact h0_), e_]
          have kab25_43 := atp.tr kab25_23 (hnfab25_24 _ (fun z_ => by have h_ := tqnw; rw [z_, tzqab25_4] at h_; exact absurd h_ (by decide)) (atp.nn kab25_23))
          have Ofab25_24 : Fr [0, 4, 12, 15, 18, 50, 54, 12001, 12006, 15002, 18002] τ f fab25_24 := Fr.tr Ofa_10 (Fr.cv xfa_10 ofab25_24 (by decide) (fun _ h_ => h_)) (fun _ h_ => h_) (fun _ h_ => h_)
          have xfab25_24 : Ex τ τfab25_24 := Ex.tr xfa_10 exfab25_24
          have hab25_44 : τfab25_24 bo = 12 := Ex.at exfab25_24 ha_30 (by decide)
          have hab25_45 : τfab25_24 u0 = 10 := Ex.at exfab25_24 ha_28 (by decide)
          have hab25_46 : τfab25_24 u1 = 1 := Ex.at exfab25_24 ha_29 (by decide)
          have hab25_47 : τfab25_24 nw = 54 := Ex.at exfab25_24 tqnw (by decide)
          have hab25_48 : τfab25_24 fq = 50 := Ex.at exfab25_24 ha_31 (by decide)
          have hab25_49 : τfab25_24 sn = 15 := Ex.at exfab25_24 ha_32 (by decide)
          have hab25_50 : τfab25_24 bf = 17 := Ex.at exfab25_24 ha_33 (by decide)
          have hab25_51 : τfab25_24 qn = 4 := Ex.at exfab25_24 ha_34 (by decide)
          have hab25_52 : τfab25_24 qa = 4 := Ex.at exfab25_24 ha_35 (by decide)
          have hab25_53 : τfab25_24 wq = 2 := Ex.at exfab25_24 ha_36 (by decide)
          have hab25_54 : τfab25_24 sq = 18 := Ex.at exfab25_24 ha_37 (by decide)
          have ofab25_24z := Fr.rf [0, 4, 12, 15, 18, 50, 54, 12001, 12006, 15002, 18002] τfab25_24 fab25_24
          obtain ⟨_, rab25_55⟩ := t_rec tfab25_24 hab25_44 (by decide) wf_12
          refine k_i (r_V C h hl (As := [.ref qab25_4]) (rest := []) (s_X0_addX l D G b0 τfab25_24 fab25_24 tfab25_24 bo hab25_44 qab25_4 tqqab25_4 sq hab25_54 ac jg25_bo_0 kab25_28 nx jg25_bo_5 kab25_29 sn hab25_49 kab25_30 bf hab25_50 kab25_31 qn hab25_51 kab25_32 sz jg25_sn_1 kab25_33 qa hab25_52 kab25_34 rn kab25_37 rf kab25_38 ra kab25_39 esq hab (by omega)) rab25_55 (Cn := RX0) (T := TX0) (N := 6) rfl rfl mk_X0_add w_576 w_577 w_578 w_579 ⟨Nat.le_of_ble_eq_true rfl, Nat.le_of_ble_eq_true rfl⟩ rfl (Nat.le_of_ble_eq_true rfl) ⟨Nat.le_of_ble_eq_true rfl, Nat.le_of_ble_eq_true rfl⟩ rfl dX10_addMoved_68) h (fun rab25_56 fab25_57 H locs pab25_58 h => ?_)
          obtain ⟨irab25_56, tfab25_57, ogfab25_57, x0rab25_56, ⟨nx1_fab25_57, kpu0_5fab25_57, ipu0_5fab25_57, rpu0_5fab25_57⟩, ⟨ac1_fab25_57, kpu0_0fab25_57, ipu0_0fab25_57, rpu0_0fab25_57⟩, ⟨sza_fab25_57, kpsq_1fab25_57, ipsq_1fab25_57, rpsq_1fab25_57⟩, ⟨szn_fab25_57, kpsn_1fab25_57, ipsn_1fab25_57, rpsn_1fab25_57⟩, ⟨ra1_fab25_57, kRqafab25_57, pRqafab25_57⟩, ⟨rn1_fab25_57, kRqnfab25_57, pRqnfab25_57⟩, fxfab25_57⟩ := pab25_58
          have ofab25_57 : Fr [0, 4, 12, 15, 18, 50, 54, 12001, 12006, 15002, 18002] τfab25_24 fab25_24 fab25_57 := Fr.tr ofab25_24z ogfab25_57 (by decide) (by decide)
          have kab25_59 := atp.fr kab25_26 ogfab25_57 hab25_45 (by decide)
          have kab25_60 := atp.fr kab25_27 ogfab25_57 hab25_45 (by decide)
          have kab25_61 := atp.fk kab25_30 ogfab25_57 hab25_44 (by decide) (by decide)
          have kab25_62 := atp.fk kab25_31 ogfab25_57 hab25_44 (by decide) (by decide)
          have kab25_63 := atp.fk kab25_32 ogfab25_57 hab25_49 (by decide) (by decide)
          have kab25_64 := atp.fk kab25_34 ogfab25_57 hab25_54 (by decide) (by decide)
          have kab25_65 := atp.fr kab25_36 ogfab25_57 hab25_46 (by decide)
          have kab25_66 := atp.fr kab25_38 ogfab25_57 hab25_50 (by decide)
          have kab25_67 := atp.fr kab25_40 ogfab25_57 hab25_48 (by decide)
          have kab25_68 := atp.fr kab25_41 ogfab25_57 hab25_53 (by decide)
          have kab25_69 := FX.tr kab25_42 fxfab25_57 (by simp)
          have kab25_70 := atp.fr kab25_43 ogfab25_57 hab25_47 (by decide)
          have kab25_71 := atp.fr kafab25_24 ogfab25_57 tqqab25_4 (by decide)
          have kab25_72 := atp.fr kbfab25_24 ogfab25_57 tqqab25_25 (by decide)
          have kab25_73 := atp.fr kcfab25_24 ogfab25_57 tqqab25_4 (by decide)
          have kab25_74 := atp.fr kdfab25_24 ogfab25_57 tqqab25_4 (by decide)
          exact u_iret C h hr hQ (⟨τfab25_24, xfab25_24, (iv_w irab25_56 (by decide)), tfab25_57, (Fr.tr Ofab25_24 (Fr.cv xfab25_24 ofab25_57 (by decide) (fun _ h_ => h_)) (fun _ h_ => h_) (fun _ h_ => h_)), ⟨fun _ => (by omega), fun z_ => (z_ (by omega)).elim⟩, ⟨nx1_fab25_57, kpu0_5fab25_57, ipu0_5fab25_57, ⟨fun _ => (by omega), fun z_ => (z_ (by omega)).elim⟩⟩, ⟨ac1_fab25_57, kpu0_0fab25_57, ipu0_0fab25_57, ⟨fun _ => (by omega), fun z_ => (z_ (by omega)).elim⟩⟩, ⟨szn_fab25_57, kpsn_1fab25_57, ipsn_1fab25_57, ⟨fun _ => (by omega), fun z_ => (z_ (by omega)).elim⟩⟩, ⟨sza_fab25_57, kpsq_1fab25_57, ipsq_1fab25_57, ⟨fun _ => (by omega), fun z_ => (z_ (by omega)).elim⟩⟩, ⟨ra1_fab25_57, kRqafab25_57, ⟨fun _ => pRqafab25_57, fun z_ => (z_ (by omega)).elim⟩⟩, ⟨rn1_fab25_57, kRqnfab25_57, ⟨fun _ => ⟨qab25_4, ⟨tqqab25_4, qab25_25, g25_nw_R, tqqab25_25, kab25_71, kab25_72, (fun k hk => by rw [hv25_0 k, if_pos (by omega)]; unfold mvd; rw [if_pos hk]; rfl), by rw [show mvd false ww u3 u4 8 = u3 from rfl]; exact kab25_73, by rw [show mvd false ww u3 u4 9 = u4 from rfl]; exact kab25_74⟩, pRqnfab25_57⟩, fun z_ => (z_ (by omega)).elim⟩⟩, ⟨rq, kab25_67, (bump_no (by rw [if_neg (by omega)]))⟩, kab25_69⟩) (Nat.le_of_ble_eq_true rfl) (Nat.le_of_ble_eq_true rfl) dX10_addMoved_71
        · have cab25_2 : v25_6.toInt < 8 := Int32.lt_iff_toInt_lt.mp (iv_nle cab25_1)
          have iab25_3 : iv v25_6 0 7 := iv_Ll cab25_2 iv25_6 (iv_k (x := 8) (k := 8) rfl) (by decide)
          refine lv_aload hx hb dX10_addMoved_32 (lv_at hl 5 rfl) ?_
          refine lv_aload_n hx hb dX10_addMoved_34 rfl (lv_at hl 2 rfl) ?_
          refine lv_iload hx hb dX10_addMoved_35 (lv_at hl 6 rfl) ?_
          refine st_ald C h (k := 2) (by decide) st_b2 (iv_in iab25_3 (by decide)) dX10_addMoved_37 (fun zab25_4 ezab25_4 izab25_4 => ?_)
          have mzab25_4 : zab25_4.toInt = (10 - v25_6.toInt) % 8 := by rw [ezab25_4]; rw [show Int32.toNatClampNeg v25_6 = v25_6.toInt.toNat from rfl, st_mi _ (by omega), show ((v25_6.toInt.toNat : Nat) : Int) = v25_6.toInt by omega]
          refine lv_aload_n hx hb dX10_addMoved_38 rfl (lv_at hl 1 rfl) ?_
          refine t_getfd C h t_25 ha_29 (by decide) wf_1 (v := .ref wq) k25_u1_0 fl_X10_135 dX10_addMoved_39 ?_
          refine lv_iload hx hb dX10_addMoved_42 (lv_at hl 6 rfl) ?_
          refine e_iald C h t_25 ha_36 (by decide) wf_2 k25_wq_R (iv_in iab25_3 (by decide)) dX10_addMoved_44 (fun zab25_5 ezab25_5 izab25_5 => ?_)
          have mzab25_5 := congrArg Int32.toInt ezab25_5
          refine e_iast C h t_25 o_25 tqnw (by decide) (by decide) wf_54 fw_54 k25_nw_R (iv_in izab25_4 (by decide)) (iv_w izab25_5 (by decide)) dX10_addMoved_45 (fun Rab25_8 fab25_6 erRab25_8 H locs h tfab25_6 ofab25_6 hq hn_ kab25_7 => ?_)
          have kab25_9 := atp.tg k25_u0_1 hq ha_28 (by decide)
          have kab25_10 := atp.tg k25_u0_7 hq ha_28 (by decide)
          have kab25_11 := atp.tg k25_bo_0 hq ha_30 (by decide)
          have kab25_12 := atp.tg k25_bo_5 hq ha_30 (by decide)
          have kab25_13 := atp.tg k25_bo_1 hq ha_30 (by decide)
          have kab25_14 := atp.tg k25_bo_3 hq ha_30 (by decide)
          have kab25_15 := atp.tg k25_sn_0 hq ha_32 (by decide)
          have kab25_16 := atp.tg k25_sn_1 hq ha_32 (by decide)
          have kab25_17 := atp.tg k25_sq_0 hq ha_37 (by decide)
          have kab25_18 := atp.tg k25_sq_1 hq ha_37 (by decide)
          have kab25_19 := atp.tg k25_u1_0 hq ha_29 (by decide)
          have kab25_20 := atp.tg k25_qn_R hq ha_34 (by decide)
          have kab25_21 := atp.tg k25_bf_R hq ha_33 (by decide)
          have kab25_22 := atp.tg k25_qa_R hq ha_35 (by decide)
          have kab25_23 := atp.tg k25_fq_R hq ha_31 (by decide)
          have kab25_24 := atp.tg k25_wq_R hq ha_36 (by decide)
          have kab25_25 := FX.upn k25_fx_FX hn_ nfnw
          refine i_inc hx hb dX10_addMoved_46 hl (k := 6) rfl iab25_3 rfl (lo := 1) (hi := 8) (by decide) (by decide) (lv' := fun v => [(6, .int v), (0, .ref u0), (1, .ref u1), (2, .ref (G (60 + 2))), (3, .int u3), (4, .int u4), (5, .ref nw)]) (fun _ => rfl) (fun zab25_27 ls ezab25_27 mzab25_27 izab25_27 hl => ?_)
          refine lv_goto (tgt := 25) hx hb dX10_addMoved_49 (by decide) ?_
          exact ih25 ls fab25_6 H locs zab25_27 Rab25_8 (show 8 - zab25_27.toInt < _ by omega) (lv_cons hl 1 rfl (lv_cons hl 2 rfl (lv_cons hl 3 rfl (lv_cons hl 4 rfl (lv_cons hl 5 rfl (lv_cons hl 6 rfl (lv_cons hl 0 rfl (lv_nil hl)))))))) h tfab25_6 ofab25_6 jv25_3 jv25_4 (iv_w izab25_27 (by decide)) jg25_bo_0 jg25_bo_5 jg25_sn_1 jg25_sq_1 kab25_9 kab25_10 kab25_11 kab25_12 kab25_13 kab25_14 kab25_15 kab25_16 kab25_17 kab25_18 kab25_19 kab25_20 kab25_21 kab25_22 kab25_23 kab25_24 kab25_25 kab25_7 (show ∀ k : Nat, Rab25_8 k = if k < 8 ∧ ((10 - (k : Int)) % 8) < zab25_27.toInt then ww ((10 - (k : Int)) % 8).toNat else 0 from (by
              intro k; rw [erRab25_8]; by_cases q_ : k = zab25_4.toInt.toNat
              · rw [upd_at q_, ezab25_5]; (repeat' split) <;> first | rfl | (exfalso; omega) | (exact congrArg _ (by omega))
              · rw [upd_off q_, hv25_0 k]; (repeat' split) <;> first | rfl | (exfalso; omega) | (exact congrArg _ (by omega))))
    exact L25 9 ls fa_10 H locs 0 ((fun _ => (0 : Int32))) (by decide) (lv_cons hl 2 rfl (lv_cons hl 3 rfl (lv_cons hl 4 rfl (lv_cons hl 5 rfl (lv_cons hl 6 rfl (lv_cons hl 1 rfl (lv_cons hl 0 rfl (lv_nil hl)))))))) h tfa_10 ofa_10z hu3 hu4 ⟨by decide, by decide⟩ hac hnx hsz hsa ka_11 ka_12 ka_13 ka_14 ka_15 ka_16 ka_17 ka_18 ka_19 ka_20 ka_21 ka_22 ka_23 ka_24 ka_25 ka_26 ka_27 kRnw (show ∀ k : Nat, (fun _ => (0 : Int32)) k = if k < 8 ∧ ((10 - (k : Int)) % 8) < 0 then ww ((10 - (k : Int)) % 8).toNat else 0 from (by
        intro k; (repeat' split) <;> first | rfl | (exfalso; omega) | (exact congrArg _ (by omega))))
  · have ca_6 : ra_2.toInt ≠ 0 := fun z_ => ca_5 (Int32.toInt_inj.mp z_)
    have ia_7 : iv ra_2 1 1 := iv_Nl ca_6 ira_2 (by decide)
    have ia_8 := cnra_2 ca_6
    refine lv_aload_n hx hb dX10_addMoved_10 rfl (lv_at hl 0 rfl) ?_
    refine lv_iconst (v := 2) hx hb dX10_addMoved_11 (by decide) ?_
    obtain ⟨_, ra_9⟩ := t_rec t hu0 (by decide) wf_10
    refine k_i (r_V C h hl (As := [.int 2]) (rest := []) (s_X10_refuseX l D G b0 τ f t u0 hu0 2 (iv_w (iv_k (x := 2) (k := 2) rfl) (by decide)) fq hfq k_u0_7 rq hRfq) ra_9 (Cn := RX10) (T := TX10) (N := 10) rfl rfl mk_X10_refuse w_519 w_521 w_8 w_522 ⟨Nat.le_of_ble_eq_true rfl, Nat.le_of_ble_eq_true rfl⟩ rfl (Nat.le_of_ble_eq_true rfl) ⟨Nat.le_of_ble_eq_true rfl, Nat.le_of_ble_eq_true rfl⟩ rfl dX10_addMoved_12) h (fun ra_10 fa_11 H locs pa_12 h => ?_)
    obtain ⟨ira_10, tfa_11, ogfa_11, ⟨rq1_fa_11, kRfqfa_11, pRfqfa_11⟩, fxfa_11⟩ := pa_12
    have ofa_11 : Fr [0, 4, 12, 15, 18, 50, 54, 12001, 12006, 15002, 18002] τ f fa_11 := Fr.tr o ogfa_11 (by decide) (by decide)
    have ka_13 := atp.fr k_u0_1 ogfa_11 hu0 (by decide)
    have ka_14 := atp.fr k_u0_7 ogfa_11 hu0 (by decide)
    have ka_15 := atp.fr k_bo_0 ogfa_11 hbo (by decide)
    have ka_16 := atp.fr k_bo_5 ogfa_11 hbo (by decide)
    have ka_17 := atp.fr k_bo_1 ogfa_11 hbo (by decide)
    have ka_18 := atp.fr k_bo_3 ogfa_11 hbo (by decide)
    have ka_19 := atp.fr k_sn_0 ogfa_11 hsn (by decide)
    have ka_20 := atp.fr k_sn_1 ogfa_11 hsn (by decide)
    have ka_21 := atp.fr k_sq_0 ogfa_11 hsq (by decide)
    have ka_22 := atp.fr k_sq_1 ogfa_11 hsq (by decide)
    have ka_23 := atp.fr k_u1_0 ogfa_11 hu1 (by decide)
    have ka_24 := atp.fr hRqn ogfa_11 hqn (by decide)
    have ka_25 := atp.fr hRbf ogfa_11 hbf (by decide)
    have ka_26 := atp.fr hRqa ogfa_11 hqa (by decide)
    have ka_27 := atp.fr hRwq ogfa_11 hwq (by decide)
    have ka_28 := FX.tr hfx fxfa_11 (by simp)
    exact u_iret C h hr hQ (⟨τ, (Ex.rf τ), (iv_w ira_10 (by decide)), tfa_11, ofa_11, ⟨fun z_ => absurd z_ (by omega), fun _ => (by omega)⟩, ⟨nx, ka_16, hnx, ⟨fun z_ => absurd z_ (by omega), fun _ => rfl⟩⟩, ⟨ac, ka_15, hac, ⟨fun z_ => absurd z_ (by omega), fun _ => rfl⟩⟩, ⟨sz, ka_20, hsz, ⟨fun z_ => absurd z_ (by omega), fun _ => rfl⟩⟩, ⟨sa, ka_22, hsa, ⟨fun z_ => absurd z_ (by omega), fun _ => rfl⟩⟩, ⟨ra, ka_26, ⟨fun z_ => absurd z_ (by omega), fun _ => rfl⟩⟩, ⟨rn, ka_24, ⟨fun z_ => absurd z_ (by omega), fun _ => rfl⟩⟩, ⟨rq1_fa_11, kRfqfa_11, (bump_eq (c := 2) pRfqfa_11 rfl (by decide) (by rw [if_pos (by omega)]))⟩, ka_28⟩) (Nat.le_of_ble_eq_true rfl) (Nat.le_of_ble_eq_true rfl) dX10_addMoved_15
abbrev rm_s_X10_addMovedXtr : Room := { frames := 3, cells := 3, slots := 20, locals := 63 }
set_option maxRecDepth 100000 in
set_option maxHeartbeats 4000000 in
theorem s_X10_addMovedXtr (l : Launch) (D : va_G) (G : Nat → Nat) (b0 : Nat) (τ : Nat → Nat) (f : hM) (t : TI G 9 τ f) (u0 : Nat) (hu0 : τ u0 = 10) (u1 : Nat) (hu1 : τ u1 = 1) (u3 : Int32) (hu3 : iv u3 0 9) (u4 : Int32) (hu4 : iv u4 0 9) (sq : Nat) (hsq : τ sq = 18) (bo : Nat) (hbo : τ bo = 12) (k_u0_1 : atp f u0 (fd 1 (.ref bo))) (fq : Nat) (hfq : τ fq = 50) (k_u0_7 : atp f u0 (fd 7 (.ref fq))) (ac : Int32) (hac : iv ac 0 12) (k_bo_0 : atp f bo (fd 0 (.int ac))) (nx : Int32) (hnx : iv nx 0 11) (k_bo_5 : atp f bo (fd 5 (.int nx))) (sn : Nat) (hsn : τ sn = 15) (k_bo_1 : atp f bo (fd 1 (.ref sn))) (bf : Nat) (hbf : τ bf = 17) (k_bo_3 : atp f bo (fd 3 (.ref bf))) (qn : Nat) (hqn : τ qn = 4) (k_sn_0 : atp f sn (fd 0 (.ref qn))) (sz : Int32) (hsz : iv sz 0 8) (k_sn_1 : atp f sn (fd 1 (.int sz))) (qa : Nat) (hqa : τ qa = 4) (k_sq_0 : atp f sq (fd 0 (.ref qa))) (sa : Int32) (hsa : iv sa 0 8) (k_sq_1 : atp f sq (fd 1 (.int sa))) (wq : Nat) (hwq : τ wq = 2) (k_u1_0 : atp f u1 (fd 0 (.ref wq))) (rn : Nat → Option Nat) (hRqn : atp f qn (eqr G 4 8 rn)) (rf : Nat → Option Nat) (hRbf : atp f bf (eqr G 3 12 rf)) (ra : Nat → Option Nat) (hRqa : atp f qa (eqr G 4 8 ra)) (rq : Nat → Int32) (hRfq : atp f fq (eqc (.inl (G 1, 4, .inl rq)))) (ww : Nat → Int32) (hRwq : atp f wq (eqc (.inl (G 1, 8, .inl ww)))) (esq : rf nx.toInt.toNat = some sq) (hab : qn ≠ qa)  : mI l yX10_addMoved cX10_addMoved 7 (.int) rm_s_X10_addMovedXtr D G b0 f [.ref u0, .ref u1, .ref (G (60 + 3)), .int u3, .int u4] (fun r f1 => (∃ τ1, Ex τ τ1 ∧ iv r (-1) 8 ∧ TI G 9 τ1 f1 ∧ Fr [0, 4, 12, 15, 18, 50, 54, 12001, 12006, 15002, 18002] τ f f1 ∧ ((((sz.toInt ≤ 7)) → r.toInt = sz.toInt) ∧ (¬ ((sz.toInt ≤ 7)) → r.toInt = -1)) ∧ (∃ nx1 : Int32, atp f1 bo (fd 5 (.int nx1)) ∧ iv nx1 0 11 ∧ (((sz.toInt ≤ 7)) → nx1.toInt = (nx.toInt + 1) % 12) ∧ (¬ ((sz.toInt ≤ 7)) → nx1.toInt = nx.toInt)) ∧ (∃ ac1 : Int32, atp f1 bo (fd 0 (.int ac1)) ∧ iv ac1 0 12 ∧ (((sz.toInt ≤ 7)) → ((ac.toInt = 12 → ac1.toInt = 12) ∧ (ac.toInt ≠ 12 → ac1.toInt = ac.toInt + 1))) ∧ (¬ ((sz.toInt ≤ 7)) → ac1.toInt = ac.toInt)) ∧ (∃ szn : Int32, atp f1 sn (fd 1 (.int szn)) ∧ iv szn 0 8 ∧ (((sz.toInt ≤ 7)) → szn.toInt = sz.toInt + 1) ∧ (¬ ((sz.toInt ≤ 7)) → szn.toInt = sz.toInt)) ∧ (∃ sza : Int32, atp f1 sq (fd 1 (.int sza)) ∧ iv sza 0 8 ∧ (((sz.toInt ≤ 7)) → sza.toInt = sz.toInt) ∧ (¬ ((sz.toInt ≤ 7)) → sza.toInt = sa.toInt)) ∧ (∃ ra1 : Nat → Option Nat, atp f1 qa (eqr G 4 8 ra1) ∧ ((((sz.toInt ≤ 7)) → ∀ k : Nat, k < 8 → ra1 k = rn k) ∧ (¬ ((sz.toInt ≤ 7)) → ra1 = ra))) ∧ (∃ rn1 : Nat → Option Nat, atp f1 qn (eqr G 4 8 rn1) ∧ ((((sz.toInt ≤ 7)) → ∃ z, SO G τ1 f1 z (mvd true ww u3 u4) ∧ ∀ k : Nat, rn1 k = if k = sz.toInt.toNat then some z else rn k) ∧ (¬ ((sz.toInt ≤ 7)) → rn1 = rn))) ∧ (∃ rq1 : Nat → Int32, atp f1 fq (eqc (.inl (G 1, 4, .inl rq1))) ∧ (∀ k : Nat, k < 4 → rq1 k = if (k : Int) = (if ¬ (sz.toInt ≤ 7) then 2 else -1) then rq k + 1 else rq k)) ∧ FX [qa, sq, bo, qn, sn, fq] f f1)) := by
  refine met2 (own := RX10) (by decide) rfl (Nat.le_of_ble_eq_true rfl) ?_
  intro p e s m args below meth c ls Q hQ C hr hini hl h
  have hl : lv_has ls 7 [(0, .ref u0), (1, .ref u1), (2, .ref (G (60 + 3))), (3, .int u3), (4, .int u4)] := hl
  obtain ⟨hx, hb, hml, hown, hts, hE0, hlk⟩ := id C
  have o := Fr.rf [0, 4, 12, 15, 18, 50, 54, 12001, 12006, 15002, 18002] τ f
  have hfx := FX.rf [qa, sq, bo, qn, sn, fq] f
  refine lv_aload_n hx hb dX10_addMoved_0 rfl (lv_at hl 0 rfl) ?_
  refine t_getfd C h t hu0 (by decide) wf_10 (v := .ref bo) k_u0_1 fl_X10_19 dX10_addMoved_1 ?_
  obtain ⟨_, ra_1⟩ := t_rec t hbo (by decide) wf_12
  refine k_i (r_V C h hl (As := []) (rest := []) (s_X0_isFullX l D G b0 τ f t bo hbo sn hsn k_bo_1 qn hqn k_sn_0 sz hsz k_sn_1) ra_1 (Cn := RX0) (T := TX0) (N := 6) rfl rfl mk_X0_isFull w_523 w_524 w_525 w_526 ⟨Nat.le_of_ble_eq_true rfl, Nat.le_of_ble_eq_true rfl⟩ rfl (Nat.le_of_ble_eq_true rfl) ⟨Nat.le_of_ble_eq_true rfl, Nat.le_of_ble_eq_true rfl⟩ rfl dX10_addMoved_4) h (fun ra_2 fa_3 H locs pa_4 h => ?_)
  obtain ⟨ira_2, tfa_3, ogfa_3, cnra_2, czra_2⟩ := pa_4
  have egfa_3 := Fr.nil2 ogfa_3
  subst egfa_3
  refine lv_if_eq (tgt := 16) hx hb dX10_addMoved_7 (by decide) (fun ca_5 => ?_) (fun ca_5 => ?_)
  · have ca_6 : ra_2.toInt = 0 := congrArg Int32.toInt ca_5
    have ia_7 : iv ra_2 0 0 := iv_Q ca_6 ira_2 (iv_k (x := 0) (k := 0) rfl) (by decide)
    have ia_8 := czra_2 ca_6
    refine lv_bipush (v := 8) hx hb dX10_addMoved_16 (by decide) ?_
    refine q_newa C h (atype := .int) 1 rfl rfl rfl w_161 (a0 := (8, .inl (fun _ => 0))) (fun _ => rfl) (by decide) (N' := 8) (by decide) (Nat.le_of_ble_eq_true rfl) (Nat.le_of_ble_eq_true rfl) (Nat.le_of_ble_eq_true rfl) dX10_addMoved_18 (fun nw H nnw h => ?_)
    have nfnw := nfr hfx nnw
    have tfa_10 := TI.new (tg := 54) (e := (.inl (G 1, 8, .inl (fun _ => 0)))) t nnw (fw_54 _ ⟨_, rfl, fun j => ⟨by decide, by decide⟩⟩)
    have esnw : Ex τ (tu τ nw 54) := TI.newEx t nnw
    have ozfa_10 : Fr [0, 4, 12, 15, 18, 50, 54, 12001, 12006, 15002, 18002] τ f (hu f nw (.inl (G 1, 8, .inl (fun _ => 0)))) := Fr.new o nnw (TI.zero t nnw) (by decide)
    have tqnw : tu τ nw 54 nw = 54 := tu_self _ _ _
    generalize tu τ nw 54 = τnw at tfa_10 esnw tqnw
    have ka_11 := atp.new k_u0_1 nnw (e := (.inl (G 1, 8, .inl (fun _ => 0))))
    have ka_12 := atp.new k_u0_7 nnw (e := (.inl (G 1, 8, .inl (fun _ => 0))))
    have ka_13 := atp.new k_bo_0 nnw (e := (.inl (G 1, 8, .inl (fun _ => 0))))
    have ka_14 := atp.new k_bo_5 nnw (e := (.inl (G 1, 8, .inl (fun _ => 0))))
    have ka_15 := atp.new k_bo_1 nnw (e := (.inl (G 1, 8, .inl (fun _ => 0))))
    have ka_16 := atp.new k_bo_3 nnw (e := (.inl (G 1, 8, .inl (fun _ => 0))))
    have ka_17 := atp.new k_sn_0 nnw (e := (.inl (G 1, 8, .inl (fun _ => 0))))
    have ka_18 := atp.new k_sn_1 nnw (e := (.inl (G 1, 8, .inl (fun _ => 0))))
    have ka_19 := atp.new k_sq_0 nnw (e := (.inl (G 1, 8, .inl (fun _ => 0))))
    have ka_20 := atp.new k_sq_1 nnw (e := (.inl (G 1, 8, .inl (fun _ => 0))))
    have ka_21 := atp.new k_u1_0 nnw (e := (.inl (G 1, 8, .inl (fun _ => 0))))
    have ka_22 := atp.new hRqn nnw (e := (.inl (G 1, 8, .inl (fun _ => 0))))
    have ka_23 := atp.new hRbf nnw (e := (.inl (G 1, 8, .inl (fun _ => 0))))
    have ka_24 := atp.new hRqa nnw (e := (.inl (G 1, 8, .inl (fun _ => 0))))
    have ka_25 := atp.new hRfq nnw (e := (.inl (G 1, 8, .inl (fun _ => 0))))
    have ka_26 := atp.new hRwq nnw (e := (.inl (G 1, 8, .inl (fun _ => 0))))
    have ka_27 := FX.new hfx nnw (e := (.inl (G 1, 8, .inl (fun _ => 0))))
    have kRnw : atp (hu f nw (.inl (G 1, 8, .inl (fun _ => 0)))) nw (eqc (.inl (G 1, 8, .inl (fun _ => 0)))) := ⟨_, hu_self _ _ _, rfl⟩
    generalize hu f nw (.inl (G 1, 8, .inl (fun _ => 0))) = fa_10 at h tfa_10 ozfa_10 ka_11 ka_12 ka_13 ka_14 ka_15 ka_16 ka_17 ka_18 ka_19 ka_20 ka_21 ka_22 ka_23 ka_24 ka_25 ka_26 ka_27 kRnw
    have Ofa_10 : Fr [0, 4, 12, 15, 18, 50, 54, 12001, 12006, 15002, 18002] τ f fa_10 := ozfa_10
    have xfa_10 : Ex τ τnw := esnw
    have ha_28 : τnw u0 = 10 := Ex.at esnw hu0 (by decide)
    have ha_29 : τnw u1 = 1 := Ex.at esnw hu1 (by decide)
    have ha_30 : τnw bo = 12 := Ex.at esnw hbo (by decide)
    have ha_31 : τnw fq = 50 := Ex.at esnw hfq (by decide)
    have ha_32 : τnw sn = 15 := Ex.at esnw hsn (by decide)
    have ha_33 : τnw bf = 17 := Ex.at esnw hbf (by decide)
    have ha_34 : τnw qn = 4 := Ex.at esnw hqn (by decide)
    have ha_35 : τnw qa = 4 := Ex.at esnw hqa (by decide)
    have ha_36 : τnw wq = 2 := Ex.at esnw hwq (by decide)
    have ha_37 : τnw sq = 18 := Ex.at esnw hsq (by decide)
    have ofa_10z := Fr.rf [0, 4, 12, 15, 18, 50, 54, 12001, 12006, 15002, 18002] τnw fa_10
    refine lv_astore (lv' := [(5, .ref nw), (0, .ref u0), (1, .ref u1), (2, .ref (G (60 + 3))), (3, .int u3), (4, .int u4)]) hx hb dX10_addMoved_20 hl (by decide) rfl (fun ls hl => ?_)
    refine lv_iconst (v := 0) hx hb dX10_addMoved_22 (by decide) ?_
    refine lv_istore (lv' := [(6, .int 0), (5, .ref nw), (0, .ref u0), (1, .ref u1), (2, .ref (G (60 + 3))), (3, .int u3), (4, .int u4)]) hx hb dX10_addMoved_23 hl (by decide) rfl (fun ls hl => ?_)
    have L25 : ∀ (n25 : Nat) (ls : Array Slot) (f_25 : hM) (H : Heap) (locs : List Loc) (v25_6 : Int32) (g25_nw_R : Nat → Int32), 8 - v25_6.toInt < (n25 : Int) → lv_has ls 7 [(0, .ref u0), (1, .ref u1), (2, .ref (G (60 + 3))), (3, .int u3), (4, .int u4), (5, .ref nw), (6, .int v25_6)] → hw D b0 s.heap f_25 H locs → TI G 9 τnw f_25 → Fr [0, 4, 12, 15, 18, 50, 54, 12001, 12006, 15002, 18002] τnw fa_10 f_25 → iv u3 0 9 → iv u4 0 9 → iv v25_6 0 8 → iv ac 0 12 → iv nx 0 11 → iv sz 0 8 → iv sa 0 8 → atp f_25 u0 (fd 1 (.ref bo)) → atp f_25 u0 (fd 7 (.ref fq)) → atp f_25 bo (fd 0 (.int ac)) → atp f_25 bo (fd 5 (.int nx)) → atp f_25 bo (fd 1 (.ref sn)) → atp f_25 bo (fd 3 (.ref bf)) → atp f_25 sn (fd 0 (.ref qn)) → atp f_25 sn (fd 1 (.int sz)) → atp f_25 sq (fd 0 (.ref qa)) → atp f_25 sq (fd 1 (.int sa)) → atp f_25 u1 (fd 0 (.ref wq)) → atp f_25 qn (eqr G 4 8 rn) → atp f_25 bf (eqr G 3 12 rf) → atp f_25 qa (eqr G 4 8 ra) → atp f_25 fq (eqc (.inl (G 1, 4, .inl rq))) → atp f_25 wq (eqc (.inl (G 1, 8, .inl ww))) → FX [qa, sq, bo, qn, sn, fq] f f_25 → atp f_25 nw (eqc (.inl (G 1, 8, .inl g25_nw_R))) → (∀ k : Nat, g25_nw_R k = if k < 8 ∧ (((k : Int) + 4) % 8) < v25_6.toInt then ww (((k : Int) + 4) % 8).toNat else 0) → W p l e rm_s_X10_addMovedXtr s m args below meth c H locs 1 8 Q (F0 m 25 ls []) := by
      intro n25
      induction n25 with
      | zero => intro ls f_25 H locs v25_6 g25_nw_R hm25 hl h t_25 o_25 jv25_3 jv25_4 iv25_6 jg25_bo_0 jg25_bo_5 jg25_sn_1 jg25_sq_1 k25_u0_1 k25_u0_7 k25_bo_0 k25_bo_5 k25_bo_1 k25_bo_3 k25_sn_0 k25_sn_1 k25_sq_0 k25_sq_1 k25_u1_0 k25_qn_R k25_bf_R k25_qa_R k25_fq_R k25_wq_R k25_fx_FX k25_nw_R hv25_0; exact absurd hm25 (by omega)
      | succ n25 ih25 =>
        intro ls f_25 H locs v25_6 g25_nw_R hm25 hl h t_25 o_25 jv25_3 jv25_4 iv25_6 jg25_bo_0 jg25_bo_5 jg25_sn_1 jg25_sq_1 k25_u0_1 k25_u0_7 k25_bo_0 k25_bo_5 k25_bo_1 k25_bo_3 k25_sn_0 k25_sn_1 k25_sq_0 k25_sq_1 k25_u1_0 k25_qn_R k25_bf_R k25_qa_R k25_fq_R k25_wq_R k25_fx_FX k25_nw_R hv25_0
        refine lv_iload hx hb dX10_addMoved_25 (lv_at hl 6 rfl) ?_
        refine lv_bipush (v := 8) hx hb dX10_addMoved_27 (by decide) ?_
        refine lv_icmp_ge (tgt := 52) hx hb dX10_addMoved_29 (by decide) (fun cab25_1 => ?_) (fun cab25_1 => ?_)
        · have cab25_2 : 8 ≤ v25_6.toInt := Int32.le_iff_toInt_le.mp cab25_1
          have iab25_3 : iv v25_6 8 8 := iv_Er cab25_2 (iv_k (x := 8) (k := 8) rfl) iv25_6 (by decide)
          refine lv_aload_n hx hb dX10_addMoved_52 rfl (lv_at hl 0 rfl) ?_
          refine t_getfd C h t_25 ha_28 (by decide) wf_10 (v := .ref bo) k25_u0_1 fl_X10_19 dX10_addMoved_53 ?_
          refine q_new C h nw_X10_121 (Nat.le_of_ble_eq_true rfl) (Nat.le_of_ble_eq_true rfl) dX10_addMoved_56 (fun qab25_4 H nqab25_4 h => ?_)
          have tzqab25_4 := TI.zero t_25 nqab25_4
          have tfab25_5 := TI.raw (e := (.inr (7, [.null, .int 0, .int 0, .null]))) t_25 tzqab25_4
          have ofab25_5 : Fr [0, 4, 12, 15, 18, 50, 54, 12001, 12006, 15002, 18002] τnw fa_10 (hu f_25 qab25_4 (.inr (7, [.null, .int 0, .int 0, .null]))) := Fr.new o_25 nqab25_4 tzqab25_4 (by decide)
          have nfqab25_4 := nfr k25_fx_FX nqab25_4
          have rwqab25_4 : hu f_25 qab25_4 (.inr (7, [.null, .int 0, .int 0, .null])) qab25_4 = some (.inr (7, [.null, .int 0, .int 0, .null])) := hu_self _ _ _
          have kab25_6 := atp.new k25_u0_1 nqab25_4 (e := (.inr (7, [.null, .int 0, .int 0, .null])))
          have kab25_7 := atp.new k25_u0_7 nqab25_4 (e := (.inr (7, [.null, .int 0, .int 0, .null])))
          have kab25_8 := atp.new k25_bo_0 nqab25_4 (e := (.inr (7, [.null, .int 0, .int 0, .null])))
          have kab25_9 := atp.new k25_bo_5 nqab25_4 (e := (.inr (7, [.null, .int 0, .int 0, .null])))
          have kab25_10 := atp.new k25_bo_1 nqab25_4 (e := (.inr (7, [.null, .int 0, .int 0, .null])))
          have kab25_11 := atp.new k25_bo_3 nqab25_4 (e := (.inr (7, [.null, .int 0, .int 0, .null])))
          have kab25_12 := atp.new k25_sn_0 nqab25_4 (e := (.inr (7, [.null, .int 0, .int 0, .null])))
          have kab25_13 := atp.new k25_sn_1 nqab25_4 (e := (.inr (7, [.null, .int 0, .int 0, .null])))
          have kab25_14 := atp.new k25_sq_0 nqab25_4 (e := (.inr (7, [.null, .int 0, .int 0, .null])))
          have kab25_15 := atp.new k25_sq_1 nqab25_4 (e := (.inr (7, [.null, .int 0, .int 0, .null])))
          have kab25_16 := atp.new k25_u1_0 nqab25_4 (e := (.inr (7, [.null, .int 0, .int 0, .null])))
          have kab25_17 := atp.new k25_qn_R nqab25_4 (e := (.inr (7, [.null, .int 0, .int 0, .null])))
          have kab25_18 := atp.new k25_bf_R nqab25_4 (e := (.inr (7, [.null, .int 0, .int 0, .null])))
          have kab25_19 := atp.new k25_qa_R nqab25_4 (e := (.inr (7, [.null, .int 0, .int 0, .null])))
          have kab25_20 := atp.new k25_fq_R nqab25_4 (e := (.inr (7, [.null, .int 0, .int 0, .null])))
          have kab25_21 := atp.new k25_wq_R nqab25_4 (e := (.inr (7, [.null, .int 0, .int 0, .null])))
          have kab25_22 := FX.new k25_fx_FX nqab25_4 (e := (.inr (7, [.null, .int 0, .int 0, .null])))
          have kab25_23 := atp.new k25_nw_R nqab25_4 (e := (.inr (7, [.null, .int 0, .int 0, .null])))
          generalize hu f_25 qab25_4 (.inr (7, [.null, .int 0, .int 0, .null])) = fab25_5 at h tfab25_5 ofab25_5 rwqab25_4 kab25_6 kab25_7 kab25_8 kab25_9 kab25_10 kab25_11 kab25_12 kab25_13 kab25_14 kab25_15 kab25_16 kab25_17 kab25_18 kab25_19 kab25_20 kab25_21 kab25_22 kab25_23
          refine lv_dup hx hb dX10_addMoved_59 rfl ?_
          refine lv_aload hx hb dX10_addMoved_60 (lv_at hl 5 rfl) ?_
          refine lv_iload_n hx hb dX10_addMoved_62 rfl (lv_at hl 3 rfl) ?_
          refine lv_iload hx hb dX10_addMoved_63 (lv_at hl 4 rfl) ?_
          refine k_v (r_I C h hl (As := [.ref nw, .int u3, .int u4]) (rest := [.ref qab25_4, .ref bo]) (c_StepSet l D G b0 fab25_5 qab25_4 nw g25_nw_R u3 u4 rwqab25_4 (eqc_some kab25_23)) mk_X6_init rfl w_614 w_534 w_535 ⟨Nat.le_of_ble_eq_true rfl, Nat.le_of_ble_eq_true rfl⟩ rfl (Nat.le_of_ble_eq_true rfl) ⟨Nat.le_of_ble_eq_true rfl, Nat.le_of_ble_eq_true rfl⟩ rfl dX10_addMoved_65) h (fun fab25_24 H locs pfab25_24 h => ?_)
          obtain ⟨qab25_25, nqab25_25, efab25_24⟩ := pfab25_24
          obtain ⟨τfab25_24, exfab25_24, tfab25_24, ofab25_24, tqqab25_4, tqqab25_25, kafab25_24, kbfab25_24, kcfab25_24, kdfab25_24, hnfab25_24, kefab25_24⟩ := mkset tfab25_5 ofab25_5 (by decide) tzqab25_4 rwqab25_4 nqab25_25 efab25_24 (fun j_ => by
              rw [hv25_0 j_]; split
              · exact row_iv2 tfab25_5 ha_36 kab25_21 _
              · exact ⟨by decide, by decide⟩) jv25_3 jv25_4
          have kab25_26 := atp.tr kab25_6 (hnfab25_24 _ (fun z_ => by have h_ := ha_28; rw [z_, tzqab25_4] at h_; exact absurd h_ (by decide)) (atp.nn kab25_6))
          have kab25_27 := atp.tr kab25_7 (hnfab25_24 _ (fun z_ => by have h_ := ha_28; rw [z_, tzqab25_4] at h_; exact absurd h_ (by decide)) (atp.nn kab25_7))
          have kab25_28 := atp.tr kab25_8 (hnfab25_24 _ (fun z_ => by have h_ := ha_30; rw [z_, tzqab25_4] at h_; exact absurd h_ (by decide)) (atp.nn kab25_8))
          have kab25_29 := atp.tr kab25_9 (hnfab25_24 _ (fun z_ => by have h_ := ha_30; rw [z_, tzqab25_4] at h_; exact absurd h_ (by decide)) (atp.nn kab25_9))
          have kab25_30 := atp.tr kab25_10 (hnfab25_24 _ (fun z_ => by have h_ := ha_30; rw [z_, tzqab25_4] at h_; exact absurd h_ (by decide)) (atp.nn kab25_10))
          have kab25_31 := atp.tr kab25_11 (hnfab25_24 _ (fun z_ => by have h_ := ha_30; rw [z_, tzqab25_4] at h_; exact absurd h_ (by decide)) (atp.nn kab25_11))
          have kab25_32 := atp.tr kab25_12 (hnfab25_24 _ (fun z_ => by have h_ := ha_32; rw [z_, tzqab25_4] at h_; exact absurd h_ (by decide)) (atp.nn kab25_12))
          have kab25_33 := atp.tr kab25_13 (hnfab25_24 _ (fun z_ => by have h_ := ha_32; rw [z_, tzqab25_4] at h_; exact absurd h_ (by decide)) (atp.nn kab25_13))
          have kab25_34 := atp.tr kab25_14 (hnfab25_24 _ (fun z_ => by have h_ := ha_37; rw [z_, tzqab25_4] at h_; exact absurd h_ (by decide)) (atp.nn kab25_14))
          have kab25_35 := atp.tr kab25_15 (hnfab25_24 _ (fun z_ => by have h_ := ha_37; rw [z_, tzqab25_4] at h_; exact absurd h_ (by decide)) (atp.nn kab25_15))
          have kab25_36 := atp.tr kab25_16 (hnfab25_24 _ (fun z_ => by have h_ := ha_29; rw [z_, tzqab25_4] at h_; exact absurd h_ (by decide)) (atp.nn kab25_16))
          have kab25_37 := atp.tr kab25_17 (hnfab25_24 _ (fun z_ => by have h_ := ha_34; rw [z_, tzqab25_4] at h_; exact absurd h_ (by decide)) (atp.nn kab25_17))
          have kab25_38 := atp.tr kab25_18 (hnfab25_24 _ (fun z_ => by have h_ := ha_33; rw [z_, tzqab25_4] at h_; exact absurd h_ (by decide)) (atp.nn kab25_18))
          have kab25_39 := atp.tr kab25_19 (hnfab25_24 _ (fun z_ => by have h_ := ha_35; rw [z_, tzqab25_4] at h_; exact absurd h_ (by decide)) (atp.nn kab25_19))
          have kab25_40 := atp.tr kab25_20 (hnfab25_24 _ (fun z_ => by have h_ := ha_31; rw [z_, tzqab25_4] at h_; exact absurd h_ (by decide)) (atp.nn kab25_20))
          have kab25_41 := atp.tr kab25_21 (hnfab25_24 _ (fun z_ => by have h_ := ha_36; rw [z_, tzqab25_4] at h_; exact absurd h_ (by decide)) (atp.nn kab25_21))
          have kab25_42 : FX [qa, sq, bo, qn, sn, fq] f fab25_24 := fun q_ hq_ h0_ => by have e_ := kab25_22 q_ hq_ h0_; rw [hnfab25_24 q_ (nfqab25_4 q_ hq_ h0_) (by rw [e_]; exact h0_), e_]
          have kab25_43 := atp.tr kab25_23 (hnfab25_24 _ (fun z_ => by have h_ := tqnw; rw [z_, tzqab25_4] at h_; exact absurd h_ (by decide)) (atp.nn kab25_23))
          have Ofab25_24 : Fr [0, 4, 12, 15, 18, 50, 54, 12001, 12006, 15002, 18002] τ f fab25_24 := Fr.tr Ofa_10 (Fr.cv xfa_10 ofab25_24 (by decide) (fun _ h_ => h_)) (fun _ h_ => h_) (fun _ h_ => h_)
          have xfab25_24 : Ex τ τfab25_24 := Ex.tr xfa_10 exfab25_24
          have hab25_44 : τfab25_24 bo = 12 := Ex.at exfab25_24 ha_30 (by decide)
          have hab25_45 : τfab25_24 u0 = 10 := Ex.at exfab25_24 ha_28 (by decide)
          have hab25_46 : τfab25_24 u1 = 1 := Ex.at exfab25_24 ha_29 (by decide)
          have hab25_47 : τfab25_24 nw = 54 := Ex.at exfab25_24 tqnw (by decide)
          have hab25_48 : τfab25_24 fq = 50 := Ex.at exfab25_24 ha_31 (by decide)
          have hab25_49 : τfab25_24 sn = 15 := Ex.at exfab25_24 ha_32 (by decide)
          have hab25_50 : τfab25_24 bf = 17 := Ex.at exfab25_24 ha_33 (by decide)
          have hab25_51 : τfab25_24 qn = 4 := Ex.at exfab25_24 ha_34 (by decide)
          have hab25_52 : τfab25_24 qa = 4 := Ex.at exfab25_24 ha_35 (by decide)
          have hab25_53 : τfab25_24 wq = 2 := Ex.at exfab25_24 ha_36 (by decide)
          have hab25_54 : τfab25_24 sq = 18 := Ex.at exfab25_24 ha_37 (by decide)
          have ofab25_24z := Fr.rf [0, 4, 12, 15, 18, 50, 54, 12001, 12006, 15002, 18002] τfab25_24 fab25_24
          obtain ⟨_, rab25_55⟩ := t_rec tfab25_24 hab25_44 (by decide) wf_12
          refine k_i (r_V C h hl (As := [.ref qab25_4]) (rest := []) (s_X0_addX l D G b0 τfab25_24 fab25_24 tfab25_24 bo hab25_44 qab25_4 tqqab25_4 sq hab25_54 ac jg25_bo_0 kab25_28 nx jg25_bo_5 kab25_29 sn hab25_49 kab25_30 bf hab25_50 kab25_31 qn hab25_51 kab25_32 sz jg25_sn_1 kab25_33 qa hab25_52 kab25_34 rn kab25_37 rf kab25_38 ra kab25_39 esq hab (by omega)) rab25_55 (Cn := RX0) (T := TX0) (N := 6) rfl rfl mk_X0_add w_576 w_577 w_578 w_579 ⟨Nat.le_of_ble_eq_true rfl, Nat.le_of_ble_eq_true rfl⟩ rfl (Nat.le_of_ble_eq_true rfl) ⟨Nat.le_of_ble_eq_true rfl, Nat.le_of_ble_eq_true rfl⟩ rfl dX10_addMoved_68) h (fun rab25_56 fab25_57 H locs pab25_58 h => ?_)
          obtain ⟨irab25_56, tfab25_57, ogfab25_57, x0rab25_56, ⟨nx1_fab25_57, kpu0_5fab25_57, ipu0_5fab25_57, rpu0_5fab25_57⟩, ⟨ac1_fab25_57, kpu0_0fab25_57, ipu0_0fab25_57, rpu0_0fab25_57⟩, ⟨sza_fab25_57, kpsq_1fab25_57, ipsq_1fab25_57, rpsq_1fab25_57⟩, ⟨szn_fab25_57, kpsn_1fab25_57, ipsn_1fab25_57, rpsn_1fab25_57⟩, ⟨ra1_fab25_57, kRqafab25_57, pRqafab25_57⟩, ⟨rn1_fab25_57, kRqnfab25_57, pRqnfab25_57⟩, fxfab25_57⟩ := pab25_58
          have ofab25_57 : Fr [0, 4, 12, 15, 18, 50, 54, 12001, 12006, 15002, 18002] τfab25_24 fab25_24 fab25_57 := Fr.tr ofab25_24z ogfab25_57 (by decide) (by decide)
          have kab25_59 := atp.fr kab25_26 ogfab25_57 hab25_45 (by decide)
          have kab25_60 := atp.fr kab25_27 ogfab25_57 hab25_45 (by decide)
          have kab25_61 := atp.fk kab25_30 ogfab25_57 hab25_44 (by decide) (by decide)
          have kab25_62 := atp.fk kab25_31 ogfab25_57 hab25_44 (by decide) (by decide)
          have kab25_63 := atp.fk kab25_32 ogfab25_57 hab25_49 (by decide) (by decide)
          have kab25_64 := atp.fk kab25_34 ogfab25_57 hab25_54 (by decide) (by decide)
          have kab25_65 := atp.fr kab25_36 ogfab25_57 hab25_46 (by decide)
          have kab25_66 := atp.fr kab25_38 ogfab25_57 hab25_50 (by decide)
          have kab25_67 := atp.fr kab25_40 ogfab25_57 hab25_48 (by decide)
          have kab25_68 := atp.fr kab25_41 ogfab25_57 hab25_53 (by decide)
          have kab25_69 := FX.tr kab25_42 fxfab25_57 (by simp)
          have kab25_70 := atp.fr kab25_43 ogfab25_57 hab25_47 (by decide)
          have kab25_71 := atp.fr kafab25_24 ogfab25_57 tqqab25_4 (by decide)
          have kab25_72 := atp.fr kbfab25_24 ogfab25_57 tqqab25_25 (by decide)
          have kab25_73 := atp.fr kcfab25_24 ogfab25_57 tqqab25_4 (by decide)
          have kab25_74 := atp.fr kdfab25_24 ogfab25_57 tqqab25_4 (by decide)
          exact u_iret C h hr hQ (⟨τfab25_24, xfab25_24, (iv_w irab25_56 (by decide)), tfab25_57, (Fr.tr Ofab25_24 (Fr.cv xfab25_24 ofab25_57 (by decide) (fun _ h_ => h_)) (fun _ h_ => h_) (fun _ h_ => h_)), ⟨fun _ => (by omega), fun z_ => (z_ (by omega)).elim⟩, ⟨nx1_fab25_57, kpu0_5fab25_57, ipu0_5fab25_57, ⟨fun _ => (by omega), fun z_ => (z_ (by omega)).elim⟩⟩, ⟨ac1_fab25_57, kpu0_0fab25_57, ipu0_0fab25_57, ⟨fun _ => (by omega), fun z_ => (z_ (by omega)).elim⟩⟩, ⟨szn_fab25_57, kpsn_1fab25_57, ipsn_1fab25_57, ⟨fun _ => (by omega), fun z_ => (z_ (by omega)).elim⟩⟩, ⟨sza_fab25_57, kpsq_1fab25_57, ipsq_1fab25_57, ⟨fun _ => (by omega), fun z_ => (z_ (by omega)).elim⟩⟩, ⟨ra1_fab25_57, kRqafab25_57, ⟨fun _ => pRqafab25_57, fun z_ => (z_ (by omega)).elim⟩⟩, ⟨rn1_fab25_57, kRqnfab25_57, ⟨fun _ => ⟨qab25_4, ⟨tqqab25_4, qab25_25, g25_nw_R, tqqab25_25, kab25_71, kab25_72, (fun k hk => by rw [hv25_0 k, if_pos (by omega)]; unfold mvd; rw [if_pos hk]; rfl), by rw [show mvd true ww u3 u4 8 = u3 from rfl]; exact kab25_73, by rw [show mvd true ww u3 u4 9 = u4 from rfl]; exact kab25_74⟩, pRqnfab25_57⟩, fun z_ => (z_ (by omega)).elim⟩⟩, ⟨rq, kab25_67, (bump_no (by rw [if_neg (by omega)]))⟩, kab25_69⟩) (Nat.le_of_ble_eq_true rfl) (Nat.le_of_ble_eq_true rfl) dX10_addMoved_71
        · have cab25_2 : v25_6.toInt < 8 := Int32.lt_iff_toInt_lt.mp (iv_nle cab25_1)
          have iab25_3 : iv v25_6 0 7 := iv_Ll cab25_2 iv25_6 (iv_k (x := 8) (k := 8) rfl) (by decide)
          refine lv_aload hx hb dX10_addMoved_32 (lv_at hl 5 rfl) ?_
          refine lv_aload_n hx hb dX10_addMoved_34 rfl (lv_at hl 2 rfl) ?_
          refine lv_iload hx hb dX10_addMoved_35 (lv_at hl 6 rfl) ?_
          refine st_ald C h (k := 3) (by decide) st_b3 (iv_in iab25_3 (by decide)) dX10_addMoved_37 (fun zab25_4 ezab25_4 izab25_4 => ?_)
          have mzab25_4 : zab25_4.toInt = (v25_6.toInt + 4) % 8 := by rw [ezab25_4]; rw [show Int32.toNatClampNeg v25_6 = v25_6.toInt.toNat from rfl, st_op _ (by omega), show ((v25_6.toInt.toNat : Nat) : Int) = v25_6.toInt by omega]
          refine lv_aload_n hx hb dX10_addMoved_38 rfl (lv_at hl 1 rfl) ?_
          refine t_getfd C h t_25 ha_29 (by decide) wf_1 (v := .ref wq) k25_u1_0 fl_X10_135 dX10_addMoved_39 ?_
          refine lv_iload hx hb dX10_addMoved_42 (lv_at hl 6 rfl) ?_
          refine e_iald C h t_25 ha_36 (by decide) wf_2 k25_wq_R (iv_in iab25_3 (by decide)) dX10_addMoved_44 (fun zab25_5 ezab25_5 izab25_5 => ?_)
          have mzab25_5 := congrArg Int32.toInt ezab25_5
          refine e_iast C h t_25 o_25 tqnw (by decide) (by decide) wf_54 fw_54 k25_nw_R (iv_in izab25_4 (by decide)) (iv_w izab25_5 (by decide)) dX10_addMoved_45 (fun Rab25_8 fab25_6 erRab25_8 H locs h tfab25_6 ofab25_6 hq hn_ kab25_7 => ?_)
          have kab25_9 := atp.tg k25_u0_1 hq ha_28 (by decide)
          have kab25_10 := atp.tg k25_u0_7 hq ha_28 (by decide)
          have kab25_11 := atp.tg k25_bo_0 hq ha_30 (by decide)
          have kab25_12 := atp.tg k25_bo_5 hq ha_30 (by decide)
          have kab25_13 := atp.tg k25_bo_1 hq ha_30 (by decide)
          have kab25_14 := atp.tg k25_bo_3 hq ha_30 (by decide)
          have kab25_15 := atp.tg k25_sn_0 hq ha_32 (by decide)
          have kab25_16 := atp.tg k25_sn_1 hq ha_32 (by decide)
          have kab25_17 := atp.tg k25_sq_0 hq ha_37 (by decide)
          have kab25_18 := atp.tg k25_sq_1 hq ha_37 (by decide)
          have kab25_19 := atp.tg k25_u1_0 hq ha_29 (by decide)
          have kab25_20 := atp.tg k25_qn_R hq ha_34 (by decide)
          have kab25_21 := atp.tg k25_bf_R hq ha_33 (by decide)
          have kab25_22 := atp.tg k25_qa_R hq ha_35 (by decide)
          have kab25_23 := atp.tg k25_fq_R hq ha_31 (by decide)
          have kab25_24 := atp.tg k25_wq_R hq ha_36 (by decide)
          have kab25_25 := FX.upn k25_fx_FX hn_ nfnw
          refine i_inc hx hb dX10_addMoved_46 hl (k := 6) rfl iab25_3 rfl (lo := 1) (hi := 8) (by decide) (by decide) (lv' := fun v => [(6, .int v), (0, .ref u0), (1, .ref u1), (2, .ref (G (60 + 3))), (3, .int u3), (4, .int u4), (5, .ref nw)]) (fun _ => rfl) (fun zab25_27 ls ezab25_27 mzab25_27 izab25_27 hl => ?_)
          refine lv_goto (tgt := 25) hx hb dX10_addMoved_49 (by decide) ?_
          exact ih25 ls fab25_6 H locs zab25_27 Rab25_8 (show 8 - zab25_27.toInt < _ by omega) (lv_cons hl 1 rfl (lv_cons hl 2 rfl (lv_cons hl 3 rfl (lv_cons hl 4 rfl (lv_cons hl 5 rfl (lv_cons hl 6 rfl (lv_cons hl 0 rfl (lv_nil hl)))))))) h tfab25_6 ofab25_6 jv25_3 jv25_4 (iv_w izab25_27 (by decide)) jg25_bo_0 jg25_bo_5 jg25_sn_1 jg25_sq_1 kab25_9 kab25_10 kab25_11 kab25_12 kab25_13 kab25_14 kab25_15 kab25_16 kab25_17 kab25_18 kab25_19 kab25_20 kab25_21 kab25_22 kab25_23 kab25_24 kab25_25 kab25_7 (show ∀ k : Nat, Rab25_8 k = if k < 8 ∧ (((k : Int) + 4) % 8) < zab25_27.toInt then ww (((k : Int) + 4) % 8).toNat else 0 from (by
              intro k; rw [erRab25_8]; by_cases q_ : k = zab25_4.toInt.toNat
              · rw [upd_at q_, ezab25_5]; (repeat' split) <;> first | rfl | (exfalso; omega) | (exact congrArg _ (by omega))
              · rw [upd_off q_, hv25_0 k]; (repeat' split) <;> first | rfl | (exfalso; omega) | (exact congrArg _ (by omega))))
    exact L25 9 ls fa_10 H locs 0 ((fun _ => (0 : Int32))) (by decide) (lv_cons hl 2 rfl (lv_cons hl 3 rfl (lv_cons hl 4 rfl (lv_cons hl 5 rfl (lv_cons hl 6 rfl (lv_cons hl 1 rfl (lv_cons hl 0 rfl (lv_nil hl)))))))) h tfa_10 ofa_10z hu3 hu4 ⟨by decide, by decide⟩ hac hnx hsz hsa ka_11 ka_12 ka_13 ka_14 ka_15 ka_16 ka_17 ka_18 ka_19 ka_20 ka_21 ka_22 ka_23 ka_24 ka_25 ka_26 ka_27 kRnw (show ∀ k : Nat, (fun _ => (0 : Int32)) k = if k < 8 ∧ (((k : Int) + 4) % 8) < 0 then ww (((k : Int) + 4) % 8).toNat else 0 from (by
        intro k; (repeat' split) <;> first | rfl | (exfalso; omega) | (exact congrArg _ (by omega))))
  · have ca_6 : ra_2.toInt ≠ 0 := fun z_ => ca_5 (Int32.toInt_inj.mp z_)
    have ia_7 : iv ra_2 1 1 := iv_Nl ca_6 ira_2 (by decide)
    have ia_8 := cnra_2 ca_6
    refine lv_aload_n hx hb dX10_addMoved_10 rfl (lv_at hl 0 rfl) ?_
    refine lv_iconst (v := 2) hx hb dX10_addMoved_11 (by decide) ?_
    obtain ⟨_, ra_9⟩ := t_rec t hu0 (by decide) wf_10
    refine k_i (r_V C h hl (As := [.int 2]) (rest := []) (s_X10_refuseX l D G b0 τ f t u0 hu0 2 (iv_w (iv_k (x := 2) (k := 2) rfl) (by decide)) fq hfq k_u0_7 rq hRfq) ra_9 (Cn := RX10) (T := TX10) (N := 10) rfl rfl mk_X10_refuse w_519 w_521 w_8 w_522 ⟨Nat.le_of_ble_eq_true rfl, Nat.le_of_ble_eq_true rfl⟩ rfl (Nat.le_of_ble_eq_true rfl) ⟨Nat.le_of_ble_eq_true rfl, Nat.le_of_ble_eq_true rfl⟩ rfl dX10_addMoved_12) h (fun ra_10 fa_11 H locs pa_12 h => ?_)
    obtain ⟨ira_10, tfa_11, ogfa_11, ⟨rq1_fa_11, kRfqfa_11, pRfqfa_11⟩, fxfa_11⟩ := pa_12
    have ofa_11 : Fr [0, 4, 12, 15, 18, 50, 54, 12001, 12006, 15002, 18002] τ f fa_11 := Fr.tr o ogfa_11 (by decide) (by decide)
    have ka_13 := atp.fr k_u0_1 ogfa_11 hu0 (by decide)
    have ka_14 := atp.fr k_u0_7 ogfa_11 hu0 (by decide)
    have ka_15 := atp.fr k_bo_0 ogfa_11 hbo (by decide)
    have ka_16 := atp.fr k_bo_5 ogfa_11 hbo (by decide)
    have ka_17 := atp.fr k_bo_1 ogfa_11 hbo (by decide)
    have ka_18 := atp.fr k_bo_3 ogfa_11 hbo (by decide)
    have ka_19 := atp.fr k_sn_0 ogfa_11 hsn (by decide)
    have ka_20 := atp.fr k_sn_1 ogfa_11 hsn (by decide)
    have ka_21 := atp.fr k_sq_0 ogfa_11 hsq (by decide)
    have ka_22 := atp.fr k_sq_1 ogfa_11 hsq (by decide)
    have ka_23 := atp.fr k_u1_0 ogfa_11 hu1 (by decide)
    have ka_24 := atp.fr hRqn ogfa_11 hqn (by decide)
    have ka_25 := atp.fr hRbf ogfa_11 hbf (by decide)
    have ka_26 := atp.fr hRqa ogfa_11 hqa (by decide)
    have ka_27 := atp.fr hRwq ogfa_11 hwq (by decide)
    have ka_28 := FX.tr hfx fxfa_11 (by simp)
    exact u_iret C h hr hQ (⟨τ, (Ex.rf τ), (iv_w ira_10 (by decide)), tfa_11, ofa_11, ⟨fun z_ => absurd z_ (by omega), fun _ => (by omega)⟩, ⟨nx, ka_16, hnx, ⟨fun z_ => absurd z_ (by omega), fun _ => rfl⟩⟩, ⟨ac, ka_15, hac, ⟨fun z_ => absurd z_ (by omega), fun _ => rfl⟩⟩, ⟨sz, ka_20, hsz, ⟨fun z_ => absurd z_ (by omega), fun _ => rfl⟩⟩, ⟨sa, ka_22, hsa, ⟨fun z_ => absurd z_ (by omega), fun _ => rfl⟩⟩, ⟨ra, ka_26, ⟨fun z_ => absurd z_ (by omega), fun _ => rfl⟩⟩, ⟨rn, ka_24, ⟨fun z_ => absurd z_ (by omega), fun _ => rfl⟩⟩, ⟨rq1_fa_11, kRfqfa_11, (bump_eq (c := 2) pRfqfa_11 rfl (by decide) (by rw [if_pos (by omega)]))⟩, ka_28⟩) (Nat.le_of_ble_eq_true rfl) (Nat.le_of_ble_eq_true rfl) dX10_addMoved_15
abbrev rm_s_X10_mirrorX : Room := { frames := 4, cells := 3, slots := 20, locals := 89 }
set_option maxRecDepth 100000 in
set_option maxHeartbeats 4000000 in
theorem s_X10_mirrorX (l : Launch) (D : va_G) (G : Nat → Nat) (b0 : Nat) (τ : Nat → Nat) (f : hM) (t : TI G 9 τ f) (u0 : Nat) (hu0 : τ u0 = 10) (u1 : Int32) (hu1 : iv u1 (-2147483648) 2147483647) (sq : Nat) (hsq : τ sq = 18) (bo : Nat) (hbo : τ bo = 12) (k_u0_1 : atp f u0 (fd 1 (.ref bo))) (fq : Nat) (hfq : τ fq = 50) (k_u0_7 : atp f u0 (fd 7 (.ref fq))) (ac : Int32) (hac : iv ac 0 12) (k_bo_0 : atp f bo (fd 0 (.int ac))) (nx : Int32) (hnx : iv nx 0 11) (k_bo_5 : atp f bo (fd 5 (.int nx))) (sn : Nat) (hsn : τ sn = 15) (k_bo_1 : atp f bo (fd 1 (.ref sn))) (bf : Nat) (hbf : τ bf = 17) (k_bo_3 : atp f bo (fd 3 (.ref bf))) (qn : Nat) (hqn : τ qn = 4) (k_sn_0 : atp f sn (fd 0 (.ref qn))) (sz : Int32) (hsz : iv sz 0 8) (k_sn_1 : atp f sn (fd 1 (.int sz))) (qa : Nat) (hqa : τ qa = 4) (k_sq_0 : atp f sq (fd 0 (.ref qa))) (sa : Int32) (hsa : iv sa 0 8) (k_sq_1 : atp f sq (fd 1 (.int sa))) (rn : Nat → Option Nat) (hRqn : atp f qn (eqr G 4 8 rn)) (rf : Nat → Option Nat) (hRbf : atp f bf (eqr G 3 12 rf)) (ra : Nat → Option Nat) (hRqa : atp f qa (eqr G 4 8 ra)) (rq : Nat → Int32) (hRfq : atp f fq (eqc (.inl (G 1, 4, .inl rq)))) (esq : rf nx.toInt.toNat = some sq) (hab : qn ≠ qa) (bk : Nat → Int32) (hb9 : ∀ k : Nat, k < 80 → iv (bk k) 0 9) (hSO : ∀ j : Nat, (j : Int) < sz.toInt → ∃ q, rn j = some q ∧ SO G τ f q (fun k => bk (10 * j + k)))  : mI l yX10_mirror cX10_mirror 3 (.int) rm_s_X10_mirrorX D G b0 f [.ref u0, .int u1] (fun r f1 => (∃ τ1, Ex τ τ1 ∧ iv r (-1) 8 ∧ TI G 9 τ1 f1 ∧ Fr [0, 4, 12, 15, 18, 50, 54, 12001, 12006, 15002, 18002] τ f f1 ∧ (((((0 ≤ u1.toInt ∧ u1.toInt < sz.toInt) ∧ sz.toInt ≤ 7)) → r.toInt = sz.toInt) ∧ (¬ (((0 ≤ u1.toInt ∧ u1.toInt < sz.toInt) ∧ sz.toInt ≤ 7)) → r.toInt = -1)) ∧ (∃ nx1 : Int32, atp f1 bo (fd 5 (.int nx1)) ∧ iv nx1 0 11 ∧ ((((0 ≤ u1.toInt ∧ u1.toInt < sz.toInt) ∧ sz.toInt ≤ 7)) → nx1.toInt = (nx.toInt + 1) % 12) ∧ (¬ (((0 ≤ u1.toInt ∧ u1.toInt < sz.toInt) ∧ sz.toInt ≤ 7)) → nx1.toInt = nx.toInt)) ∧ (∃ ac1 : Int32, atp f1 bo (fd 0 (.int ac1)) ∧ iv ac1 0 12 ∧ ((((0 ≤ u1.toInt ∧ u1.toInt < sz.toInt) ∧ sz.toInt ≤ 7)) → ((ac.toInt = 12 → ac1.toInt = 12) ∧ (ac.toInt ≠ 12 → ac1.toInt = ac.toInt + 1))) ∧ (¬ (((0 ≤ u1.toInt ∧ u1.toInt < sz.toInt) ∧ sz.toInt ≤ 7)) → ac1.toInt = ac.toInt)) ∧ (∃ szn : Int32, atp f1 sn (fd 1 (.int szn)) ∧ iv szn 0 8 ∧ ((((0 ≤ u1.toInt ∧ u1.toInt < sz.toInt) ∧ sz.toInt ≤ 7)) → szn.toInt = sz.toInt + 1) ∧ (¬ (((0 ≤ u1.toInt ∧ u1.toInt < sz.toInt) ∧ sz.toInt ≤ 7)) → szn.toInt = sz.toInt)) ∧ (∃ sza : Int32, atp f1 sq (fd 1 (.int sza)) ∧ iv sza 0 8 ∧ ((((0 ≤ u1.toInt ∧ u1.toInt < sz.toInt) ∧ sz.toInt ≤ 7)) → sza.toInt = sz.toInt) ∧ (¬ (((0 ≤ u1.toInt ∧ u1.toInt < sz.toInt) ∧ sz.toInt ≤ 7)) → sza.toInt = sa.toInt)) ∧ (∃ ra1 : Nat → Option Nat, atp f1 qa (eqr G 4 8 ra1) ∧ (((((0 ≤ u1.toInt ∧ u1.toInt < sz.toInt) ∧ sz.toInt ≤ 7)) → ∀ k : Nat, k < 8 → ra1 k = rn k) ∧ (¬ (((0 ≤ u1.toInt ∧ u1.toInt < sz.toInt) ∧ sz.toInt ≤ 7)) → ra1 = ra))) ∧ (∃ rn1 : Nat → Option Nat, atp f1 qn (eqr G 4 8 rn1) ∧ (((((0 ≤ u1.toInt ∧ u1.toInt < sz.toInt) ∧ sz.toInt ≤ 7)) → ∃ z, SO G τ1 f1 z (mi bk u1.toInt) ∧ ∀ k : Nat, rn1 k = if k = sz.toInt.toNat then some z else rn k) ∧ (¬ (((0 ≤ u1.toInt ∧ u1.toInt < sz.toInt) ∧ sz.toInt ≤ 7)) → rn1 = rn))) ∧ (∃ rq1 : Nat → Int32, atp f1 fq (eqc (.inl (G 1, 4, .inl rq1))) ∧ (∀ k : Nat, k < 4 → rq1 k = if (k : Int) = (if ¬ (0 ≤ u1.toInt ∧ u1.toInt < sz.toInt) then 0 else (if ¬ (sz.toInt ≤ 7) then 2 else -1)) then rq k + 1 else rq k)) ∧ FX [qa, sq, bo, qn, sn, fq] f f1)) := by
  refine met2 (own := RX10) (by decide) rfl (Nat.le_of_ble_eq_true rfl) ?_
  intro p e s m args below meth c ls Q hQ C hr hini hl h
  have hl : lv_has ls 3 [(0, .ref u0), (1, .int u1)] := hl
  obtain ⟨hx, hb, hml, hown, hts, hE0, hlk⟩ := id C
  have o := Fr.rf [0, 4, 12, 15, 18, 50, 54, 12001, 12006, 15002, 18002] τ f
  have hfx := FX.rf [qa, sq, bo, qn, sn, fq] f
  refine lv_aload_n hx hb dX10_mirror_0 rfl (lv_at hl 0 rfl) ?_
  refine t_getfd C h t hu0 (by decide) wf_10 (v := .ref bo) k_u0_1 fl_X10_19 dX10_mirror_1 ?_
  refine lv_iload_n hx hb dX10_mirror_4 rfl (lv_at hl 1 rfl) ?_
  obtain ⟨_, ra_1⟩ := t_rec t hbo (by decide) wf_12
  refine k_q (r_V C h hl (As := [.int u1]) (rest := []) (s_X0_findX l D G b0 τ f t bo hbo u1 hu1 sn hsn k_bo_1 qn hqn k_sn_0 sz hsz k_sn_1 rn hRqn) ra_1 (Cn := RX0) (T := TX0) (N := 6) rfl rfl mk_X0_find w_594 w_595 w_596 w_597 ⟨Nat.le_of_ble_eq_true rfl, Nat.le_of_ble_eq_true rfl⟩ rfl (Nat.le_of_ble_eq_true rfl) ⟨Nat.le_of_ble_eq_true rfl, Nat.le_of_ble_eq_true rfl⟩ rfl dX10_mirror_5) h (fun ra_2 fa_3 H locs pa_4 h => ?_)
  obtain ⟨qra_2, tfa_3, ogfa_3, x0ra_2⟩ := pa_4
  have egfa_3 := Fr.nil2 ogfa_3
  subst egfa_3
  have tra_2 := qra_2
  refine lv_astore_nO (lv' := [(2, va_rf ra_2), (0, .ref u0), (1, .int u1)]) hx hb dX10_mirror_8 rfl hl (by decide) rfl (fun ls hl => ?_)
  refine lv_aload_nO hx hb dX10_mirror_9 rfl (lv_at hl 0 rfl) ?_
  rcases va_rfc ra_2 with eqa_6 | ⟨qa_6, eqa_6⟩
  · subst eqa_6
    have nkra_2 : ¬ (0 ≤ u1.toInt ∧ u1.toInt < sz.toInt) := fun z_ => by rw [if_pos z_] at x0ra_2; obtain ⟨q_, h_, -⟩ := hSO u1.toInt.toNat (by omega); rw [h_] at x0ra_2; cases x0ra_2
    have hl : lv_has ls 3 [(2, .null), (0, .ref u0), (1, .int u1)] := hl
    show W _ _ _ _ _ _ _ _ _ _ _ _ _ _ _ (F0 m 10 ls [.null])
    refine lv_ifnonnullN hx hb dX10_mirror_10 ?_
    refine lv_aload_n hx hb dX10_mirror_13 rfl (lv_at hl 1 rfl) ?_
    refine lv_iconst (v := 0) hx hb dX10_mirror_14 (by decide) ?_
    obtain ⟨_, ra_7⟩ := t_rec t hu0 (by decide) wf_10
    refine k_i (r_V C h hl (As := [.int 0]) (rest := []) (s_X10_refuseX l D G b0 τ f t u0 hu0 0 (iv_w (iv_k (x := 0) (k := 0) rfl) (by decide)) fq hfq k_u0_7 rq hRfq) ra_7 (Cn := RX10) (T := TX10) (N := 10) rfl rfl mk_X10_refuse w_519 w_521 w_8 w_522 ⟨Nat.le_of_ble_eq_true rfl, Nat.le_of_ble_eq_true rfl⟩ rfl (Nat.le_of_ble_eq_true rfl) ⟨Nat.le_of_ble_eq_true rfl, Nat.le_of_ble_eq_true rfl⟩ rfl dX10_mirror_15) h (fun ra_8 fa_9 H locs pa_10 h => ?_)
    obtain ⟨ira_8, tfa_9, ogfa_9, ⟨rq1_fa_9, kRfqfa_9, pRfqfa_9⟩, fxfa_9⟩ := pa_10
    have ofa_9 : Fr [0, 4, 12, 15, 18, 50, 54, 12001, 12006, 15002, 18002] τ f fa_9 := Fr.tr o ogfa_9 (by decide) (by decide)
    have ka_11 := atp.fr k_u0_1 ogfa_9 hu0 (by decide)
    have ka_12 := atp.fr k_u0_7 ogfa_9 hu0 (by decide)
    have ka_13 := atp.fr k_bo_0 ogfa_9 hbo (by decide)
    have ka_14 := atp.fr k_bo_5 ogfa_9 hbo (by decide)
    have ka_15 := atp.fr k_bo_1 ogfa_9 hbo (by decide)
    have ka_16 := atp.fr k_bo_3 ogfa_9 hbo (by decide)
    have ka_17 := atp.fr k_sn_0 ogfa_9 hsn (by decide)
    have ka_18 := atp.fr k_sn_1 ogfa_9 hsn (by decide)
    have ka_19 := atp.fr k_sq_0 ogfa_9 hsq (by decide)
    have ka_20 := atp.fr k_sq_1 ogfa_9 hsq (by decide)
    have ka_21 := atp.fr hRqn ogfa_9 hqn (by decide)
    have ka_22 := atp.fr hRbf ogfa_9 hbf (by decide)
    have ka_23 := atp.fr hRqa ogfa_9 hqa (by decide)
    have ka_24 := FX.tr hfx fxfa_9 (by simp)
    refine lv_goto (tgt := 37) hx hb dX10_mirror_18 (by decide) ?_
    exact u_iret C h hr hQ (⟨τ, (Ex.rf τ), (iv_w ira_8 (by decide)), tfa_9, ofa_9, ⟨fun z_ => absurd z_ (by omega), fun _ => (by omega)⟩, ⟨nx, ka_14, hnx, ⟨fun z_ => absurd z_ (by omega), fun _ => rfl⟩⟩, ⟨ac, ka_13, hac, ⟨fun z_ => absurd z_ (by omega), fun _ => rfl⟩⟩, ⟨sz, ka_18, hsz, ⟨fun z_ => absurd z_ (by omega), fun _ => rfl⟩⟩, ⟨sa, ka_20, hsa, ⟨fun z_ => absurd z_ (by omega), fun _ => rfl⟩⟩, ⟨ra, ka_23, ⟨fun z_ => absurd z_ (by omega), fun _ => rfl⟩⟩, ⟨rn, ka_21, ⟨fun z_ => absurd z_ (by omega), fun _ => rfl⟩⟩, ⟨rq1_fa_9, kRfqfa_9, (bump_eq (c := 0) pRfqfa_9 rfl (by decide) (by rw [if_pos (by omega)]))⟩, ka_24⟩) (Nat.le_of_ble_eq_true rfl) (Nat.le_of_ble_eq_true rfl) dX10_mirror_37
  · subst eqa_6
    have tqa_6 : τ qa_6 = 1 := tra_2 _ rfl
    have okra_2 : (0 ≤ u1.toInt ∧ u1.toInt < sz.toInt) := by
      by_cases z_ : (0 ≤ u1.toInt ∧ u1.toInt < sz.toInt)
      · exact z_
      · rw [if_neg z_] at x0ra_2; cases x0ra_2
    rw [if_pos okra_2] at x0ra_2
    obtain ⟨q_, h_, -, wqS1, wwS1, twS1, kwS1, krS1, hwS1, kxS1, kyS1⟩ := hSO u1.toInt.toNat (by omega)
    rw [← x0ra_2] at h_; cases h_
    have hwS1 : ∀ k : Nat, k < 8 → wwS1 k = bk (10 * u1.toInt.toNat + k) := hwS1
    have kxS1 : atp f qa_6 (fd 1 (.int (bk (10 * u1.toInt.toNat + 8)))) := kxS1
    have kyS1 : atp f qa_6 (fd 2 (.int (bk (10 * u1.toInt.toNat + 9)))) := kyS1
    obtain ⟨sxS1, esxS1, isxS1⟩ : ∃ z_ : Int32, z_ = bk (10 * u1.toInt.toNat + 8) ∧ iv z_ 0 9 := ⟨_, rfl, hb9 _ (by omega)⟩
    rw [← esxS1] at kxS1
    obtain ⟨syS1, esyS1, isyS1⟩ : ∃ z_ : Int32, z_ = bk (10 * u1.toInt.toNat + 9) ∧ iv z_ 0 9 := ⟨_, rfl, hb9 _ (by omega)⟩
    rw [← esyS1] at kyS1
    have hl : lv_has ls 3 [(2, .ref qa_6), (0, .ref u0), (1, .int u1)] := hl
    show W _ _ _ _ _ _ _ _ _ _ _ _ _ _ _ (F0 m 10 ls [.ref qa_6])
    refine lv_ifnonnull (tgt := 21) hx hb dX10_mirror_10 (by decide) ?_
    refine lv_aload_n hx hb dX10_mirror_21 rfl (lv_at hl 1 rfl) ?_
    refine lv_aload_n hx hb dX10_mirror_22 rfl (lv_at hl 0 rfl) ?_
    refine st_get C h (i := 2) (by decide) w_607 dX10_mirror_23 ?_
    refine lv_aload_n hx hb dX10_mirror_26 rfl (lv_at hl 0 rfl) ?_
    refine t_getfd C h t tqa_6 (by decide) wf_1 (v := .int syS1) kyS1 fl_X10_120 dX10_mirror_27 ?_
    refine lv_aload_n hx hb dX10_mirror_30 rfl (lv_at hl 0 rfl) ?_
    refine t_getfd C h t tqa_6 (by decide) wf_1 (v := .int sxS1) kxS1 fl_X10_125 dX10_mirror_31 ?_
    obtain ⟨_, ra_7⟩ := t_rec t hu0 (by decide) wf_10
    refine k_i (r_V C h hl (As := [.ref qa_6, .ref (G (60 + 2)), .int syS1, .int sxS1]) (rest := []) (s_X10_addMovedXmi l D G b0 τ f t u0 hu0 qa_6 tqa_6 syS1 isyS1 sxS1 isxS1 sq hsq bo hbo k_u0_1 fq hfq k_u0_7 ac hac k_bo_0 nx hnx k_bo_5 sn hsn k_bo_1 bf hbf k_bo_3 qn hqn k_sn_0 sz hsz k_sn_1 qa hqa k_sq_0 sa hsa k_sq_1 wqS1 twS1 kwS1 rn hRqn rf hRbf ra hRqa rq hRfq wwS1 krS1 esq hab) ra_7 (Cn := RX10) (T := TX10) (N := 10) rfl rfl mk_X10_addMoved w_609 w_611 w_10 w_612 ⟨Nat.le_of_ble_eq_true rfl, Nat.le_of_ble_eq_true rfl⟩ rfl (Nat.le_of_ble_eq_true rfl) ⟨Nat.le_of_ble_eq_true rfl, Nat.le_of_ble_eq_true rfl⟩ rfl dX10_mirror_34) h (fun ra_8 fa_9 H locs pa_10 h => ?_)
    obtain ⟨τfa_9, exfa_9, ira_8, tfa_9, ogfa_9, x0ra_8, ⟨nx1_fa_9, kpbo_5fa_9, ipbo_5fa_9, rpbo_5fa_9⟩, ⟨ac1_fa_9, kpbo_0fa_9, ipbo_0fa_9, rpbo_0fa_9⟩, ⟨szn_fa_9, kpsn_1fa_9, ipsn_1fa_9, rpsn_1fa_9⟩, ⟨sza_fa_9, kpsq_1fa_9, ipsq_1fa_9, rpsq_1fa_9⟩, ⟨ra1_fa_9, kRqafa_9, pRqafa_9⟩, ⟨rn1_fa_9, kRqnfa_9, pRqnfa_9⟩, ⟨rq1_fa_9, kRfqfa_9, pRfqfa_9⟩, fxfa_9⟩ := pa_10
    have ofa_9 : Fr [0, 4, 12, 15, 18, 50, 54, 12001, 12006, 15002, 18002] τ f fa_9 := Fr.tr o ogfa_9 (by decide) (by decide)
    have ka_11 := atp.fr k_u0_1 ogfa_9 hu0 (by decide)
    have ka_12 := atp.fr k_u0_7 ogfa_9 hu0 (by decide)
    have ka_13 := atp.fk k_bo_1 ogfa_9 hbo (by decide) (by decide)
    have ka_14 := atp.fk k_bo_3 ogfa_9 hbo (by decide) (by decide)
    have ka_15 := atp.fk k_sn_0 ogfa_9 hsn (by decide) (by decide)
    have ka_16 := atp.fk k_sq_0 ogfa_9 hsq (by decide) (by decide)
    have ka_17 := atp.fr hRbf ogfa_9 hbf (by decide)
    have ka_18 := FX.tr hfx fxfa_9 (by simp)
    have ka_19 := atp.fr kwS1 ogfa_9 tqa_6 (by decide)
    have ka_20 := atp.fr krS1 ogfa_9 twS1 (by decide)
    have ka_21 := atp.fr kxS1 ogfa_9 tqa_6 (by decide)
    have ka_22 := atp.fr kyS1 ogfa_9 tqa_6 (by decide)
    have Ofa_9 : Fr [0, 4, 12, 15, 18, 50, 54, 12001, 12006, 15002, 18002] τ f fa_9 := ofa_9
    have xfa_9 : Ex τ τfa_9 := exfa_9
    have ha_23 : τfa_9 u0 = 10 := Ex.at exfa_9 hu0 (by decide)
    have ha_24 : τfa_9 qa_6 = 1 := Ex.at exfa_9 tqa_6 (by decide)
    have ha_25 : τfa_9 bo = 12 := Ex.at exfa_9 hbo (by decide)
    have ha_26 : τfa_9 fq = 50 := Ex.at exfa_9 hfq (by decide)
    have ha_27 : τfa_9 sn = 15 := Ex.at exfa_9 hsn (by decide)
    have ha_28 : τfa_9 bf = 17 := Ex.at exfa_9 hbf (by decide)
    have ha_29 : τfa_9 qn = 4 := Ex.at exfa_9 hqn (by decide)
    have ha_30 : τfa_9 qa = 4 := Ex.at exfa_9 hqa (by decide)
    have ha_31 : τfa_9 wqS1 = 2 := Ex.at exfa_9 twS1 (by decide)
    have ha_32 : τfa_9 sq = 18 := Ex.at exfa_9 hsq (by decide)
    have ofa_9z := Fr.rf [0, 4, 12, 15, 18, 50, 54, 12001, 12006, 15002, 18002] τfa_9 fa_9
    exact u_iret C h hr hQ (⟨τfa_9, xfa_9, ira_8, tfa_9, (Fr.tr Ofa_9 (Fr.cv xfa_9 ofa_9z (by decide) (fun _ h_ => h_)) (fun _ h_ => h_) (fun _ h_ => h_)), (by omega), ⟨nx1_fa_9, kpbo_5fa_9, ipbo_5fa_9, (by omega)⟩, ⟨ac1_fa_9, kpbo_0fa_9, ipbo_0fa_9, (by omega)⟩, ⟨szn_fa_9, kpsn_1fa_9, ipsn_1fa_9, (by omega)⟩, ⟨sza_fa_9, kpsq_1fa_9, ipsq_1fa_9, (by omega)⟩, ⟨ra1_fa_9, kRqafa_9, ⟨fun z_ => pRqafa_9.1 z_.2, fun z_ => pRqafa_9.2 (by omega)⟩⟩, ⟨rn1_fa_9, kRqnfa_9, ⟨fun z_ => by
        obtain ⟨q_, h1_, h2_⟩ := pRqnfa_9.1 z_.2
        rw [esxS1, esyS1] at h1_
        exact ⟨q_, h1_.congr (mvd_mi hwS1 (by omega)), h2_⟩, fun z_ => pRqnfa_9.2 (by omega)⟩⟩, ⟨rq1_fa_9, kRfqfa_9, (bump_tr pRfqfa_9 (by rw [if_neg (by omega)]))⟩, ka_18⟩) (Nat.le_of_ble_eq_true rfl) (Nat.le_of_ble_eq_true rfl) dX10_mirror_37
abbrev rm_s_X10_turnX : Room := { frames := 4, cells := 3, slots := 20, locals := 89 }
set_option maxRecDepth 100000 in
set_option maxHeartbeats 4000000 in
theorem s_X10_turnX (l : Launch) (D : va_G) (G : Nat → Nat) (b0 : Nat) (τ : Nat → Nat) (f : hM) (t : TI G 9 τ f) (u0 : Nat) (hu0 : τ u0 = 10) (u1 : Int32) (hu1 : iv u1 (-2147483648) 2147483647) (sq : Nat) (hsq : τ sq = 18) (bo : Nat) (hbo : τ bo = 12) (k_u0_1 : atp f u0 (fd 1 (.ref bo))) (fq : Nat) (hfq : τ fq = 50) (k_u0_7 : atp f u0 (fd 7 (.ref fq))) (ac : Int32) (hac : iv ac 0 12) (k_bo_0 : atp f bo (fd 0 (.int ac))) (nx : Int32) (hnx : iv nx 0 11) (k_bo_5 : atp f bo (fd 5 (.int nx))) (sn : Nat) (hsn : τ sn = 15) (k_bo_1 : atp f bo (fd 1 (.ref sn))) (bf : Nat) (hbf : τ bf = 17) (k_bo_3 : atp f bo (fd 3 (.ref bf))) (qn : Nat) (hqn : τ qn = 4) (k_sn_0 : atp f sn (fd 0 (.ref qn))) (sz : Int32) (hsz : iv sz 0 8) (k_sn_1 : atp f sn (fd 1 (.int sz))) (qa : Nat) (hqa : τ qa = 4) (k_sq_0 : atp f sq (fd 0 (.ref qa))) (sa : Int32) (hsa : iv sa 0 8) (k_sq_1 : atp f sq (fd 1 (.int sa))) (rn : Nat → Option Nat) (hRqn : atp f qn (eqr G 4 8 rn)) (rf : Nat → Option Nat) (hRbf : atp f bf (eqr G 3 12 rf)) (ra : Nat → Option Nat) (hRqa : atp f qa (eqr G 4 8 ra)) (rq : Nat → Int32) (hRfq : atp f fq (eqc (.inl (G 1, 4, .inl rq)))) (esq : rf nx.toInt.toNat = some sq) (hab : qn ≠ qa) (bk : Nat → Int32) (hb9 : ∀ k : Nat, k < 80 → iv (bk k) 0 9) (hSO : ∀ j : Nat, (j : Int) < sz.toInt → ∃ q, rn j = some q ∧ SO G τ f q (fun k => bk (10 * j + k)))  : mI l yX10_turn cX10_turn 3 (.int) rm_s_X10_turnX D G b0 f [.ref u0, .int u1] (fun r f1 => (∃ τ1, Ex τ τ1 ∧ iv r (-1) 8 ∧ TI G 9 τ1 f1 ∧ Fr [0, 4, 12, 15, 18, 50, 54, 12001, 12006, 15002, 18002] τ f f1 ∧ (((((0 ≤ u1.toInt ∧ u1.toInt < sz.toInt) ∧ sz.toInt ≤ 7)) → r.toInt = sz.toInt) ∧ (¬ (((0 ≤ u1.toInt ∧ u1.toInt < sz.toInt) ∧ sz.toInt ≤ 7)) → r.toInt = -1)) ∧ (∃ nx1 : Int32, atp f1 bo (fd 5 (.int nx1)) ∧ iv nx1 0 11 ∧ ((((0 ≤ u1.toInt ∧ u1.toInt < sz.toInt) ∧ sz.toInt ≤ 7)) → nx1.toInt = (nx.toInt + 1) % 12) ∧ (¬ (((0 ≤ u1.toInt ∧ u1.toInt < sz.toInt) ∧ sz.toInt ≤ 7)) → nx1.toInt = nx.toInt)) ∧ (∃ ac1 : Int32, atp f1 bo (fd 0 (.int ac1)) ∧ iv ac1 0 12 ∧ ((((0 ≤ u1.toInt ∧ u1.toInt < sz.toInt) ∧ sz.toInt ≤ 7)) → ((ac.toInt = 12 → ac1.toInt = 12) ∧ (ac.toInt ≠ 12 → ac1.toInt = ac.toInt + 1))) ∧ (¬ (((0 ≤ u1.toInt ∧ u1.toInt < sz.toInt) ∧ sz.toInt ≤ 7)) → ac1.toInt = ac.toInt)) ∧ (∃ szn : Int32, atp f1 sn (fd 1 (.int szn)) ∧ iv szn 0 8 ∧ ((((0 ≤ u1.toInt ∧ u1.toInt < sz.toInt) ∧ sz.toInt ≤ 7)) → szn.toInt = sz.toInt + 1) ∧ (¬ (((0 ≤ u1.toInt ∧ u1.toInt < sz.toInt) ∧ sz.toInt ≤ 7)) → szn.toInt = sz.toInt)) ∧ (∃ sza : Int32, atp f1 sq (fd 1 (.int sza)) ∧ iv sza 0 8 ∧ ((((0 ≤ u1.toInt ∧ u1.toInt < sz.toInt) ∧ sz.toInt ≤ 7)) → sza.toInt = sz.toInt) ∧ (¬ (((0 ≤ u1.toInt ∧ u1.toInt < sz.toInt) ∧ sz.toInt ≤ 7)) → sza.toInt = sa.toInt)) ∧ (∃ ra1 : Nat → Option Nat, atp f1 qa (eqr G 4 8 ra1) ∧ (((((0 ≤ u1.toInt ∧ u1.toInt < sz.toInt) ∧ sz.toInt ≤ 7)) → ∀ k : Nat, k < 8 → ra1 k = rn k) ∧ (¬ (((0 ≤ u1.toInt ∧ u1.toInt < sz.toInt) ∧ sz.toInt ≤ 7)) → ra1 = ra))) ∧ (∃ rn1 : Nat → Option Nat, atp f1 qn (eqr G 4 8 rn1) ∧ (((((0 ≤ u1.toInt ∧ u1.toInt < sz.toInt) ∧ sz.toInt ≤ 7)) → ∃ z, SO G τ1 f1 z (tr bk u1.toInt) ∧ ∀ k : Nat, rn1 k = if k = sz.toInt.toNat then some z else rn k) ∧ (¬ (((0 ≤ u1.toInt ∧ u1.toInt < sz.toInt) ∧ sz.toInt ≤ 7)) → rn1 = rn))) ∧ (∃ rq1 : Nat → Int32, atp f1 fq (eqc (.inl (G 1, 4, .inl rq1))) ∧ (∀ k : Nat, k < 4 → rq1 k = if (k : Int) = (if ¬ (0 ≤ u1.toInt ∧ u1.toInt < sz.toInt) then 0 else (if ¬ (sz.toInt ≤ 7) then 2 else -1)) then rq k + 1 else rq k)) ∧ FX [qa, sq, bo, qn, sn, fq] f f1)) := by
  refine met2 (own := RX10) (by decide) rfl (Nat.le_of_ble_eq_true rfl) ?_
  intro p e s m args below meth c ls Q hQ C hr hini hl h
  have hl : lv_has ls 3 [(0, .ref u0), (1, .int u1)] := hl
  obtain ⟨hx, hb, hml, hown, hts, hE0, hlk⟩ := id C
  have o := Fr.rf [0, 4, 12, 15, 18, 50, 54, 12001, 12006, 15002, 18002] τ f
  have hfx := FX.rf [qa, sq, bo, qn, sn, fq] f
  refine lv_aload_n hx hb dX10_turn_0 rfl (lv_at hl 0 rfl) ?_
  refine t_getfd C h t hu0 (by decide) wf_10 (v := .ref bo) k_u0_1 fl_X10_19 dX10_turn_1 ?_
  refine lv_iload_n hx hb dX10_turn_4 rfl (lv_at hl 1 rfl) ?_
  obtain ⟨_, ra_1⟩ := t_rec t hbo (by decide) wf_12
  refine k_q (r_V C h hl (As := [.int u1]) (rest := []) (s_X0_findX l D G b0 τ f t bo hbo u1 hu1 sn hsn k_bo_1 qn hqn k_sn_0 sz hsz k_sn_1 rn hRqn) ra_1 (Cn := RX0) (T := TX0) (N := 6) rfl rfl mk_X0_find w_594 w_595 w_596 w_597 ⟨Nat.le_of_ble_eq_true rfl, Nat.le_of_ble_eq_true rfl⟩ rfl (Nat.le_of_ble_eq_true rfl) ⟨Nat.le_of_ble_eq_true rfl, Nat.le_of_ble_eq_true rfl⟩ rfl dX10_turn_5) h (fun ra_2 fa_3 H locs pa_4 h => ?_)
  obtain ⟨qra_2, tfa_3, ogfa_3, x0ra_2⟩ := pa_4
  have egfa_3 := Fr.nil2 ogfa_3
  subst egfa_3
  have tra_2 := qra_2
  refine lv_astore_nO (lv' := [(2, va_rf ra_2), (0, .ref u0), (1, .int u1)]) hx hb dX10_turn_8 rfl hl (by decide) rfl (fun ls hl => ?_)
  refine lv_aload_nO hx hb dX10_turn_9 rfl (lv_at hl 0 rfl) ?_
  rcases va_rfc ra_2 with eqa_6 | ⟨qa_6, eqa_6⟩
  · subst eqa_6
    have nkra_2 : ¬ (0 ≤ u1.toInt ∧ u1.toInt < sz.toInt) := fun z_ => by rw [if_pos z_] at x0ra_2; obtain ⟨q_, h_, -⟩ := hSO u1.toInt.toNat (by omega); rw [h_] at x0ra_2; cases x0ra_2
    have hl : lv_has ls 3 [(2, .null), (0, .ref u0), (1, .int u1)] := hl
    show W _ _ _ _ _ _ _ _ _ _ _ _ _ _ _ (F0 m 10 ls [.null])
    refine lv_ifnonnullN hx hb dX10_turn_10 ?_
    refine lv_aload_n hx hb dX10_turn_13 rfl (lv_at hl 1 rfl) ?_
    refine lv_iconst (v := 0) hx hb dX10_turn_14 (by decide) ?_
    obtain ⟨_, ra_7⟩ := t_rec t hu0 (by decide) wf_10
    refine k_i (r_V C h hl (As := [.int 0]) (rest := []) (s_X10_refuseX l D G b0 τ f t u0 hu0 0 (iv_w (iv_k (x := 0) (k := 0) rfl) (by decide)) fq hfq k_u0_7 rq hRfq) ra_7 (Cn := RX10) (T := TX10) (N := 10) rfl rfl mk_X10_refuse w_519 w_521 w_8 w_522 ⟨Nat.le_of_ble_eq_true rfl, Nat.le_of_ble_eq_true rfl⟩ rfl (Nat.le_of_ble_eq_true rfl) ⟨Nat.le_of_ble_eq_true rfl, Nat.le_of_ble_eq_true rfl⟩ rfl dX10_turn_15) h (fun ra_8 fa_9 H locs pa_10 h => ?_)
    obtain ⟨ira_8, tfa_9, ogfa_9, ⟨rq1_fa_9, kRfqfa_9, pRfqfa_9⟩, fxfa_9⟩ := pa_10
    have ofa_9 : Fr [0, 4, 12, 15, 18, 50, 54, 12001, 12006, 15002, 18002] τ f fa_9 := Fr.tr o ogfa_9 (by decide) (by decide)
    have ka_11 := atp.fr k_u0_1 ogfa_9 hu0 (by decide)
    have ka_12 := atp.fr k_u0_7 ogfa_9 hu0 (by decide)
    have ka_13 := atp.fr k_bo_0 ogfa_9 hbo (by decide)
    have ka_14 := atp.fr k_bo_5 ogfa_9 hbo (by decide)
    have ka_15 := atp.fr k_bo_1 ogfa_9 hbo (by decide)
    have ka_16 := atp.fr k_bo_3 ogfa_9 hbo (by decide)
    have ka_17 := atp.fr k_sn_0 ogfa_9 hsn (by decide)
    have ka_18 := atp.fr k_sn_1 ogfa_9 hsn (by decide)
    have ka_19 := atp.fr k_sq_0 ogfa_9 hsq (by decide)
    have ka_20 := atp.fr k_sq_1 ogfa_9 hsq (by decide)
    have ka_21 := atp.fr hRqn ogfa_9 hqn (by decide)
    have ka_22 := atp.fr hRbf ogfa_9 hbf (by decide)
    have ka_23 := atp.fr hRqa ogfa_9 hqa (by decide)
    have ka_24 := FX.tr hfx fxfa_9 (by simp)
    refine lv_goto (tgt := 37) hx hb dX10_turn_18 (by decide) ?_
    exact u_iret C h hr hQ (⟨τ, (Ex.rf τ), (iv_w ira_8 (by decide)), tfa_9, ofa_9, ⟨fun z_ => absurd z_ (by omega), fun _ => (by omega)⟩, ⟨nx, ka_14, hnx, ⟨fun z_ => absurd z_ (by omega), fun _ => rfl⟩⟩, ⟨ac, ka_13, hac, ⟨fun z_ => absurd z_ (by omega), fun _ => rfl⟩⟩, ⟨sz, ka_18, hsz, ⟨fun z_ => absurd z_ (by omega), fun _ => rfl⟩⟩, ⟨sa, ka_20, hsa, ⟨fun z_ => absurd z_ (by omega), fun _ => rfl⟩⟩, ⟨ra, ka_23, ⟨fun z_ => absurd z_ (by omega), fun _ => rfl⟩⟩, ⟨rn, ka_21, ⟨fun z_ => absurd z_ (by omega), fun _ => rfl⟩⟩, ⟨rq1_fa_9, kRfqfa_9, (bump_eq (c := 0) pRfqfa_9 rfl (by decide) (by rw [if_pos (by omega)]))⟩, ka_24⟩) (Nat.le_of_ble_eq_true rfl) (Nat.le_of_ble_eq_true rfl) dX10_turn_37
  · subst eqa_6
    have tqa_6 : τ qa_6 = 1 := tra_2 _ rfl
    have okra_2 : (0 ≤ u1.toInt ∧ u1.toInt < sz.toInt) := by
      by_cases z_ : (0 ≤ u1.toInt ∧ u1.toInt < sz.toInt)
      · exact z_
      · rw [if_neg z_] at x0ra_2; cases x0ra_2
    rw [if_pos okra_2] at x0ra_2
    obtain ⟨q_, h_, -, wqS1, wwS1, twS1, kwS1, krS1, hwS1, kxS1, kyS1⟩ := hSO u1.toInt.toNat (by omega)
    rw [← x0ra_2] at h_; cases h_
    have hwS1 : ∀ k : Nat, k < 8 → wwS1 k = bk (10 * u1.toInt.toNat + k) := hwS1
    have kxS1 : atp f qa_6 (fd 1 (.int (bk (10 * u1.toInt.toNat + 8)))) := kxS1
    have kyS1 : atp f qa_6 (fd 2 (.int (bk (10 * u1.toInt.toNat + 9)))) := kyS1
    obtain ⟨sxS1, esxS1, isxS1⟩ : ∃ z_ : Int32, z_ = bk (10 * u1.toInt.toNat + 8) ∧ iv z_ 0 9 := ⟨_, rfl, hb9 _ (by omega)⟩
    rw [← esxS1] at kxS1
    obtain ⟨syS1, esyS1, isyS1⟩ : ∃ z_ : Int32, z_ = bk (10 * u1.toInt.toNat + 9) ∧ iv z_ 0 9 := ⟨_, rfl, hb9 _ (by omega)⟩
    rw [← esyS1] at kyS1
    have hl : lv_has ls 3 [(2, .ref qa_6), (0, .ref u0), (1, .int u1)] := hl
    show W _ _ _ _ _ _ _ _ _ _ _ _ _ _ _ (F0 m 10 ls [.ref qa_6])
    refine lv_ifnonnull (tgt := 21) hx hb dX10_turn_10 (by decide) ?_
    refine lv_aload_n hx hb dX10_turn_21 rfl (lv_at hl 1 rfl) ?_
    refine lv_aload_n hx hb dX10_turn_22 rfl (lv_at hl 0 rfl) ?_
    refine st_get C h (i := 3) (by decide) w_619 dX10_turn_23 ?_
    refine lv_aload_n hx hb dX10_turn_26 rfl (lv_at hl 0 rfl) ?_
    refine t_getfd C h t tqa_6 (by decide) wf_1 (v := .int sxS1) kxS1 fl_X10_125 dX10_turn_27 ?_
    refine lv_aload_n hx hb dX10_turn_30 rfl (lv_at hl 0 rfl) ?_
    refine t_getfd C h t tqa_6 (by decide) wf_1 (v := .int syS1) kyS1 fl_X10_120 dX10_turn_31 ?_
    obtain ⟨_, ra_7⟩ := t_rec t hu0 (by decide) wf_10
    refine k_i (r_V C h hl (As := [.ref qa_6, .ref (G (60 + 3)), .int sxS1, .int syS1]) (rest := []) (s_X10_addMovedXtr l D G b0 τ f t u0 hu0 qa_6 tqa_6 sxS1 isxS1 syS1 isyS1 sq hsq bo hbo k_u0_1 fq hfq k_u0_7 ac hac k_bo_0 nx hnx k_bo_5 sn hsn k_bo_1 bf hbf k_bo_3 qn hqn k_sn_0 sz hsz k_sn_1 qa hqa k_sq_0 sa hsa k_sq_1 wqS1 twS1 kwS1 rn hRqn rf hRbf ra hRqa rq hRfq wwS1 krS1 esq hab) ra_7 (Cn := RX10) (T := TX10) (N := 10) rfl rfl mk_X10_addMoved w_609 w_611 w_10 w_612 ⟨Nat.le_of_ble_eq_true rfl, Nat.le_of_ble_eq_true rfl⟩ rfl (Nat.le_of_ble_eq_true rfl) ⟨Nat.le_of_ble_eq_true rfl, Nat.le_of_ble_eq_true rfl⟩ rfl dX10_turn_34) h (fun ra_8 fa_9 H locs pa_10 h => ?_)
    obtain ⟨τfa_9, exfa_9, ira_8, tfa_9, ogfa_9, x0ra_8, ⟨nx1_fa_9, kpbo_5fa_9, ipbo_5fa_9, rpbo_5fa_9⟩, ⟨ac1_fa_9, kpbo_0fa_9, ipbo_0fa_9, rpbo_0fa_9⟩, ⟨szn_fa_9, kpsn_1fa_9, ipsn_1fa_9, rpsn_1fa_9⟩, ⟨sza_fa_9, kpsq_1fa_9, ipsq_1fa_9, rpsq_1fa_9⟩, ⟨ra1_fa_9, kRqafa_9, pRqafa_9⟩, ⟨rn1_fa_9, kRqnfa_9, pRqnfa_9⟩, ⟨rq1_fa_9, kRfqfa_9, pRfqfa_9⟩, fxfa_9⟩ := pa_10
    have ofa_9 : Fr [0, 4, 12, 15, 18, 50, 54, 12001, 12006, 15002, 18002] τ f fa_9 := Fr.tr o ogfa_9 (by decide) (by decide)
    have ka_11 := atp.fr k_u0_1 ogfa_9 hu0 (by decide)
    have ka_12 := atp.fr k_u0_7 ogfa_9 hu0 (by decide)
    have ka_13 := atp.fk k_bo_1 ogfa_9 hbo (by decide) (by decide)
    have ka_14 := atp.fk k_bo_3 ogfa_9 hbo (by decide) (by decide)
    have ka_15 := atp.fk k_sn_0 ogfa_9 hsn (by decide) (by decide)
    have ka_16 := atp.fk k_sq_0 ogfa_9 hsq (by decide) (by decide)
    have ka_17 := atp.fr hRbf ogfa_9 hbf (by decide)
    have ka_18 := FX.tr hfx fxfa_9 (by simp)
    have ka_19 := atp.fr kwS1 ogfa_9 tqa_6 (by decide)
    have ka_20 := atp.fr krS1 ogfa_9 twS1 (by decide)
    have ka_21 := atp.fr kxS1 ogfa_9 tqa_6 (by decide)
    have ka_22 := atp.fr kyS1 ogfa_9 tqa_6 (by decide)
    have Ofa_9 : Fr [0, 4, 12, 15, 18, 50, 54, 12001, 12006, 15002, 18002] τ f fa_9 := ofa_9
    have xfa_9 : Ex τ τfa_9 := exfa_9
    have ha_23 : τfa_9 u0 = 10 := Ex.at exfa_9 hu0 (by decide)
    have ha_24 : τfa_9 qa_6 = 1 := Ex.at exfa_9 tqa_6 (by decide)
    have ha_25 : τfa_9 bo = 12 := Ex.at exfa_9 hbo (by decide)
    have ha_26 : τfa_9 fq = 50 := Ex.at exfa_9 hfq (by decide)
    have ha_27 : τfa_9 sn = 15 := Ex.at exfa_9 hsn (by decide)
    have ha_28 : τfa_9 bf = 17 := Ex.at exfa_9 hbf (by decide)
    have ha_29 : τfa_9 qn = 4 := Ex.at exfa_9 hqn (by decide)
    have ha_30 : τfa_9 qa = 4 := Ex.at exfa_9 hqa (by decide)
    have ha_31 : τfa_9 wqS1 = 2 := Ex.at exfa_9 twS1 (by decide)
    have ha_32 : τfa_9 sq = 18 := Ex.at exfa_9 hsq (by decide)
    have ofa_9z := Fr.rf [0, 4, 12, 15, 18, 50, 54, 12001, 12006, 15002, 18002] τfa_9 fa_9
    exact u_iret C h hr hQ (⟨τfa_9, xfa_9, ira_8, tfa_9, (Fr.tr Ofa_9 (Fr.cv xfa_9 ofa_9z (by decide) (fun _ h_ => h_)) (fun _ h_ => h_) (fun _ h_ => h_)), (by omega), ⟨nx1_fa_9, kpbo_5fa_9, ipbo_5fa_9, (by omega)⟩, ⟨ac1_fa_9, kpbo_0fa_9, ipbo_0fa_9, (by omega)⟩, ⟨szn_fa_9, kpsn_1fa_9, ipsn_1fa_9, (by omega)⟩, ⟨sza_fa_9, kpsq_1fa_9, ipsq_1fa_9, (by omega)⟩, ⟨ra1_fa_9, kRqafa_9, ⟨fun z_ => pRqafa_9.1 z_.2, fun z_ => pRqafa_9.2 (by omega)⟩⟩, ⟨rn1_fa_9, kRqnfa_9, ⟨fun z_ => by
        obtain ⟨q_, h1_, h2_⟩ := pRqnfa_9.1 z_.2
        rw [esxS1, esyS1] at h1_
        exact ⟨q_, h1_.congr (mvd_tr hwS1 (by omega)), h2_⟩, fun z_ => pRqnfa_9.2 (by omega)⟩⟩, ⟨rq1_fa_9, kRfqfa_9, (bump_tr pRfqfa_9 (by rw [if_neg (by omega)]))⟩, ka_18⟩) (Nat.le_of_ble_eq_true rfl) (Nat.le_of_ble_eq_true rfl) dX10_turn_37
