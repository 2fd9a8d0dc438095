theorem dX10_refuse_0 : decode cX10_refuse 0 = .ok (.aload_n 0, 1) := by decide +kernel
theorem dX10_refuse_1 : decode cX10_refuse 1 = .ok (.getfield 60, 3) := by decide +kernel
theorem dX10_refuse_4 : decode cX10_refuse 4 = .ok (.iload_n 1, 1) := by decide +kernel
theorem dX10_refuse_5 : decode cX10_refuse 5 = .ok (.dup2, 1) := by decide +kernel
theorem dX10_refuse_6 : decode cX10_refuse 6 = .ok (.iaload, 1) := by decide +kernel
theorem dX10_refuse_7 : decode cX10_refuse 7 = .ok (.iconst 1, 1) := by decide +kernel
theorem dX10_refuse_8 : decode cX10_refuse 8 = .ok (.iadd, 1) := by decide +kernel
theorem dX10_refuse_9 : decode cX10_refuse 9 = .ok (.iastore, 1) := by decide +kernel
theorem dX10_refuse_10 : decode cX10_refuse 10 = .ok (.iconst (-1), 1) := by decide +kernel
theorem dX10_refuse_11 : decode cX10_refuse 11 = .ok (.ireturn, 1) := by decide +kernel
theorem dX10_drop_0 : decode cX10_drop 0 = .ok (.aload_n 0, 1) := by decide +kernel
theorem dX10_drop_1 : decode cX10_drop 1 = .ok (.getfield 19, 3) := by decide +kernel
theorem dX10_drop_4 : decode cX10_drop 4 = .ok (.iload_n 1, 1) := by decide +kernel
theorem dX10_drop_5 : decode cX10_drop 5 = .ok (.invokevirtual 110, 3) := by decide +kernel
theorem dX10_drop_8 : decode cX10_drop 8 = .ok (.ifnonnull 9, 3) := by decide +kernel
theorem dX10_drop_11 : decode cX10_drop 11 = .ok (.aload_n 0, 1) := by decide +kernel
theorem dX10_drop_12 : decode cX10_drop 12 = .ok (.iconst 0, 1) := by decide +kernel
theorem dX10_drop_13 : decode cX10_drop 13 = .ok (.invokevirtual 95, 3) := by decide +kernel
theorem w_519 : Cond.methodLink "QuarterWalks" 95 yX10_refuse ∈ wAll := wI2 184 (by decide +kernel) (by decide +kernel)
theorem w_8 : Cond.selects yX10_refuse.cls yX10_refuse yX10_refuse ∈ wAll := wIn 8 (by decide +kernel) (by decide +kernel)
theorem mk_X10_refuse : mk yX10_refuse 1 := ⟨by decide +kernel, w_96⟩
theorem w_521 : Cond.instanceMethod yX10_refuse ∈ wAll := wI2 186 (by decide +kernel) (by decide +kernel)
theorem w_522 : Cond.code yX10_refuse cX10_refuse 2 (some .int) ∈ wAll := wI2 187 (by decide +kernel) (by decide +kernel)
theorem dX10_drop_17 : decode cX10_drop 17 = .ok (.aload_n 0, 1) := by decide +kernel
theorem dX10_drop_18 : decode cX10_drop 18 = .ok (.getfield 19, 3) := by decide +kernel
theorem dX10_drop_21 : decode cX10_drop 21 = .ok (.iload_n 1, 1) := by decide +kernel
theorem dX10_drop_22 : decode cX10_drop 22 = .ok (.invokevirtual 114, 3) := by decide +kernel
theorem w_599 : Cond.methodLink "QuarterWalks" 114 yX0_remove ∈ wAll := wI3 24 (by decide +kernel) (by decide +kernel)
theorem w_601 : Cond.selects yX0_remove.cls yX0_remove yX0_remove ∈ wAll := wI3 26 (by decide +kernel) (by decide +kernel)
theorem mk_X0_remove : mk yX0_remove 1 := ⟨by decide +kernel, w_98⟩
theorem w_600 : Cond.instanceMethod yX0_remove ∈ wAll := wI3 25 (by decide +kernel) (by decide +kernel)
theorem w_602 : Cond.code yX0_remove cX0_remove 3 (some .int) ∈ wAll := wI3 27 (by decide +kernel) (by decide +kernel)
theorem dX10_drop_16 : decode cX10_drop 16 = .ok (.ireturn, 1) := by decide +kernel
theorem dX10_drop_25 : decode cX10_drop 25 = .ok (.ireturn, 1) := by decide +kernel
theorem dX10_areDigits_0 : decode cX10_areDigits 0 = .ok (.aload_n 0, 1) := by decide +kernel
theorem dX10_areDigits_1 : decode cX10_areDigits 1 = .ok (.astore_n 1, 1) := by decide +kernel
theorem dX10_areDigits_2 : decode cX10_areDigits 2 = .ok (.aload_n 1, 1) := by decide +kernel
theorem dX10_areDigits_3 : decode cX10_areDigits 3 = .ok (.arraylength, 1) := by decide +kernel
theorem dX10_areDigits_4 : decode cX10_areDigits 4 = .ok (.istore_n 2, 1) := by decide +kernel
theorem dX10_areDigits_5 : decode cX10_areDigits 5 = .ok (.iconst 0, 1) := by decide +kernel
theorem dX10_areDigits_6 : decode cX10_areDigits 6 = .ok (.istore_n 3, 1) := by decide +kernel
theorem dX10_areDigits_7 : decode cX10_areDigits 7 = .ok (.iload_n 3, 1) := by decide +kernel
theorem dX10_areDigits_8 : decode cX10_areDigits 8 = .ok (.iload_n 2, 1) := by decide +kernel
theorem dX10_areDigits_9 : decode cX10_areDigits 9 = .ok (.if_icmp .ge 27, 3) := by decide +kernel
theorem dX10_areDigits_12 : decode cX10_areDigits 12 = .ok (.aload_n 1, 1) := by decide +kernel
theorem dX10_areDigits_13 : decode cX10_areDigits 13 = .ok (.iload_n 3, 1) := by decide +kernel
theorem dX10_areDigits_14 : decode cX10_areDigits 14 = .ok (.iaload, 1) := by decide +kernel
theorem dX10_areDigits_15 : decode cX10_areDigits 15 = .ok (.istore 4, 2) := by decide +kernel
theorem dX10_areDigits_17 : decode cX10_areDigits 17 = .ok (.iload 4, 2) := by decide +kernel
theorem dX10_areDigits_19 : decode cX10_areDigits 19 = .ok (.iconst 0, 1) := by decide +kernel
theorem dX10_areDigits_20 : decode cX10_areDigits 20 = .ok (.bipush 9, 2) := by decide +kernel
theorem dX10_areDigits_22 : decode cX10_areDigits 22 = .ok (.invokestatic 87, 3) := by decide +kernel
theorem dX10_areDigits_25 : decode cX10_areDigits 25 = .ok (.ifCond .ne 5, 3) := by decide +kernel
theorem dX10_areDigits_30 : decode cX10_areDigits 30 = .ok (.iinc 3 1, 3) := by decide +kernel
theorem dX10_areDigits_33 : decode cX10_areDigits 33 = .ok (.goto (-26), 3) := by decide +kernel
theorem dX10_areDigits_28 : decode cX10_areDigits 28 = .ok (.iconst 0, 1) := by decide +kernel
theorem dX10_areDigits_36 : decode cX10_areDigits 36 = .ok (.iconst 1, 1) := by decide +kernel
theorem dX10_areDigits_37 : decode cX10_areDigits 37 = .ok (.ireturn, 1) := by decide +kernel
theorem dX10_areDigits_29 : decode cX10_areDigits 29 = .ok (.ireturn, 1) := by decide +kernel
abbrev rm_s_X10_refuseX : Room := { frames := 0, cells := 0, slots := 0, locals := 0 }
set_option maxRecDepth 100000 in
set_option maxHeartbeats 4000000 in
theorem s_X10_refuseX (l : Launch) (D : va_G) (G : Nat → Nat) (b0 : Nat) (τ : Nat → Nat) (f : hM) (t : TI G 9 τ f) (u0 : Nat) (hu0 : τ u0 = 10) (u1 : Int32) (hu1 : iv u1 0 3) (fq : Nat) (hfq : τ fq = 50) (k_u0_7 : atp f u0 (fd 7 (.ref fq))) (rq : Nat → Int32) (hRfq : atp f fq (eqc (.inl (G 1, 4, .inl rq)))) : mI l yX10_refuse cX10_refuse 2 (.int) rm_s_X10_refuseX D G b0 f [.ref u0, .int u1] (fun r f1 => iv r (-1) (-1) ∧ TI G 9 τ f1 ∧ Fr [50] τ f f1 ∧ (∃ rq1 : Nat → Int32, atp f1 fq (eqc (.inl (G 1, 4, .inl rq1))) ∧ (∀ k : Nat, rq1 k = if k = u1.toInt.toNat then rq k + 1 else rq k)) ∧ FX [fq] f f1) := by
  refine met2 (own := RX10) (by decide) rfl (Nat.le_of_ble_eq_true rfl) ?_
  intro p e s m args below meth c ls Q hQ C hr hini hl h
  have hl : lv_has ls 2 [(0, .ref u0), (1, .int u1)] := hl
  obtain ⟨hx, hb, hml, hown, hts, hE0, hlk⟩ := id C
  have o := Fr.rf [50] τ f
  have hfx := FX.rf [fq] f
  refine lv_aload_n hx hb dX10_refuse_0 rfl (lv_at hl 0 rfl) ?_
  refine t_getfd C h t hu0 (by decide) wf_10 (v := .ref fq) k_u0_7 fl_X10_60 dX10_refuse_1 ?_
  refine lv_iload_n hx hb dX10_refuse_4 rfl (lv_at hl 1 rfl) ?_
  refine lv_dup2_11 hx hb dX10_refuse_5 rfl rfl ?_
  refine e_iald C h t hfq (by decide) wf_50 hRfq (iv_in hu1 (by decide)) dX10_refuse_6 (fun z1 ez1 iz1 => ?_)
  have mz1 := congrArg Int32.toInt ez1
  refine lv_iconst (v := 1) hx hb dX10_refuse_7 (by decide) ?_
  refine lv_iadd hx hb dX10_refuse_8 (i_top (iv_any _) (fun z2 ez2 iz2 => ?_))
  refine e_iast C h t o hfq (by decide) (by decide) wf_50 fw_50 hRfq (iv_in hu1 (by decide)) iz2 dX10_refuse_9 (fun R5 f3 erR5 H locs h tf3 of3 hq hn_ k4 => ?_)
  have k6 := atp.tg k_u0_7 hq hu0 (by decide)
  have k8 := FX.up hfx hn_ (by simp)
  refine lv_iconst (v := -1) hx hb dX10_refuse_10 (by decide) ?_
  exact u_iret C h hr hQ (⟨⟨by decide, by decide⟩, tf3, of3, ⟨R5, k4, (fun k => by
      rw [erR5]; by_cases q_ : k = u1.toInt.toNat
      · rw [upd_at q_, if_pos q_, ez2, q_]; exact congrArg (fun z_ => z_ + 1) (by assumption)
      · rw [upd_off q_, if_neg q_])⟩, k8⟩) (Nat.le_of_ble_eq_true rfl) (Nat.le_of_ble_eq_true rfl) dX10_refuse_11
abbrev rm_s_X10_dropX : Room := { frames := 3, cells := 0, slots := 0, locals := 64 }
set_option maxRecDepth 100000 in
set_option maxHeartbeats 4000000 in
theorem s_X10_dropX (l : Launch) (D : va_G) (G : Nat → Nat) (b0 : Nat) (τ : Nat → Nat) (f : hM) (t : TI G 9 τ f) (u0 : Nat) (hu0 : τ u0 = 10) (u1 : Int32) (hu1 : iv u1 (-2147483648) 2147483647) (sq : Nat) (hsq : τ sq = 18) (bo : Nat) (hbo : τ bo = 12) (k_u0_1 : atp f u0 (fd 1 (.ref bo))) (fq : Nat) (hfq : τ fq = 50) (k_u0_7 : atp f u0 (fd 7 (.ref fq))) (ac : Int32) (hac : iv ac 0 12) (k_bo_0 : atp f bo (fd 0 (.int ac))) (nx : Int32) (hnx : iv nx 0 11) (k_bo_5 : atp f bo (fd 5 (.int nx))) (sn : Nat) (hsn : τ sn = 15) (k_bo_1 : atp f bo (fd 1 (.ref sn))) (bf : Nat) (hbf : τ bf = 17) (k_bo_3 : atp f bo (fd 3 (.ref bf))) (qn : Nat) (hqn : τ qn = 4) (k_sn_0 : atp f sn (fd 0 (.ref qn))) (sz : Int32) (hsz : iv sz 0 8) (k_sn_1 : atp f sn (fd 1 (.int sz))) (qa : Nat) (hqa : τ qa = 4) (k_sq_0 : atp f sq (fd 0 (.ref qa))) (sa : Int32) (hsa : iv sa 0 8) (k_sq_1 : atp f sq (fd 1 (.int sa))) (rn : Nat → Option Nat) (hRqn : atp f qn (eqr G 4 8 rn)) (rf : Nat → Option Nat) (hRbf : atp f bf (eqr G 3 12 rf)) (ra : Nat → Option Nat) (hRqa : atp f qa (eqr G 4 8 ra)) (rq : Nat → Int32) (hRfq : atp f fq (eqc (.inl (G 1, 4, .inl rq)))) (esq : rf nx.toInt.toNat = some sq) (hab : qn ≠ qa) (bk : Nat → Int32) (hb9 : ∀ k : Nat, k < 80 → iv (bk k) 0 9) (hSO : ∀ j : Nat, (j : Int) < sz.toInt → ∃ q, rn j = some q ∧ SO G τ f q (fun k => bk (10 * j + k)))  : mI l yX10_drop cX10_drop 2 (.int) rm_s_X10_dropX D G b0 f [.ref u0, .int u1] (fun r f1 => (∃ τ1, Ex τ τ1 ∧ iv r (-1) 7 ∧ TI G 9 τ1 f1 ∧ Fr [4, 12, 15, 18, 50, 12001, 12006, 15002, 18002] τ f f1 ∧ ((((0 ≤ u1.toInt ∧ u1.toInt < sz.toInt)) → r.toInt = sz.toInt - 1) ∧ (¬ ((0 ≤ u1.toInt ∧ u1.toInt < sz.toInt)) → r.toInt = -1)) ∧ (∃ nx1 : Int32, atp f1 bo (fd 5 (.int nx1)) ∧ iv nx1 0 11 ∧ (((0 ≤ u1.toInt ∧ u1.toInt < sz.toInt)) → nx1.toInt = (nx.toInt + 1) % 12) ∧ (¬ ((0 ≤ u1.toInt ∧ u1.toInt < sz.toInt)) → nx1.toInt = nx.toInt)) ∧ (∃ ac1 : Int32, atp f1 bo (fd 0 (.int ac1)) ∧ iv ac1 0 12 ∧ (((0 ≤ u1.toInt ∧ u1.toInt < sz.toInt)) → ((ac.toInt = 12 → ac1.toInt = 12) ∧ (ac.toInt ≠ 12 → ac1.toInt = ac.toInt + 1))) ∧ (¬ ((0 ≤ u1.toInt ∧ u1.toInt < sz.toInt)) → ac1.toInt = ac.toInt)) ∧ (∃ szn : Int32, atp f1 sn (fd 1 (.int szn)) ∧ iv szn 0 8 ∧ (((0 ≤ u1.toInt ∧ u1.toInt < sz.toInt)) → szn.toInt = sz.toInt - 1) ∧ (¬ ((0 ≤ u1.toInt ∧ u1.toInt < sz.toInt)) → szn.toInt = sz.toInt)) ∧ (∃ sza : Int32, atp f1 sq (fd 1 (.int sza)) ∧ iv sza 0 8 ∧ (((0 ≤ u1.toInt ∧ u1.toInt < sz.toInt)) → sza.toInt = sz.toInt) ∧ (¬ ((0 ≤ u1.toInt ∧ u1.toInt < sz.toInt)) → sza.toInt = sa.toInt)) ∧ (∃ ra1 : Nat → Option Nat, atp f1 qa (eqr G 4 8 ra1) ∧ ((((0 ≤ u1.toInt ∧ u1.toInt < sz.toInt)) → ∀ k : Nat, k < 8 → ra1 k = rn k) ∧ (¬ ((0 ≤ u1.toInt ∧ u1.toInt < sz.toInt)) → ra1 = ra))) ∧ (∃ rn1 : Nat → Option Nat, atp f1 qn (eqr G 4 8 rn1) ∧ ((((0 ≤ u1.toInt ∧ u1.toInt < sz.toInt)) → ∀ k : Nat, rn1 k = if (k : Int) = sz.toInt - 1 then none else if u1.toInt ≤ (k : Int) ∧ (k : Int) < sz.toInt - 1 then rn (k + 1) else rn k) ∧ (¬ ((0 ≤ u1.toInt ∧ u1.toInt < sz.toInt)) → rn1 = rn))) ∧ (∃ rq1 : Nat → Int32, atp f1 fq (eqc (.inl (G 1, 4, .inl rq1))) ∧ (∀ k : Nat, k < 4 → rq1 k = if (k : Int) = (if ¬ (0 ≤ u1.toInt ∧ u1.toInt < sz.toInt) then 0 else -1) then rq k + 1 else rq k)) ∧ FX [qa, sq, bo, qn, sn, fq] f f1)) := by
  refine met2 (own := RX10) (by decide) rfl (Nat.le_of_ble_eq_true rfl) ?_
  intro p e s m args below meth c ls Q hQ C hr hini hl h
  have hl : lv_has ls 2 [(0, .ref u0), (1, .int u1)] := hl
  obtain ⟨hx, hb, hml, hown, hts, hE0, hlk⟩ := id C
  have o := Fr.rf [4, 12, 15, 18, 50, 12001, 12006, 15002, 18002] τ f
  have hfx := FX.rf [qa, sq, bo, qn, sn, fq] f
  refine lv_aload_n hx hb dX10_drop_0 rfl (lv_at hl 0 rfl) ?_
  refine t_getfd C h t hu0 (by decide) wf_10 (v := .ref bo) k_u0_1 fl_X10_19 dX10_drop_1 ?_
  refine lv_iload_n hx hb dX10_drop_4 rfl (lv_at hl 1 rfl) ?_
  obtain ⟨_, ra_1⟩ := t_rec t hbo (by decide) wf_12
  refine k_q (r_V C h hl (As := [.int u1]) (rest := []) (s_X0_findX l D G b0 τ f t bo hbo u1 hu1 sn hsn k_bo_1 qn hqn k_sn_0 sz hsz k_sn_1 rn hRqn) ra_1 (Cn := RX0) (T := TX0) (N := 6) rfl rfl mk_X0_find w_594 w_595 w_596 w_597 ⟨Nat.le_of_ble_eq_true rfl, Nat.le_of_ble_eq_true rfl⟩ rfl (Nat.le_of_ble_eq_true rfl) ⟨Nat.le_of_ble_eq_true rfl, Nat.le_of_ble_eq_true rfl⟩ rfl dX10_drop_5) h (fun ra_2 fa_3 H locs pa_4 h => ?_)
  obtain ⟨qra_2, tfa_3, ogfa_3, x0ra_2⟩ := pa_4
  have egfa_3 := Fr.nil2 ogfa_3
  subst egfa_3
  have tra_2 := qra_2
  rcases va_rfc ra_2 with eqa_6 | ⟨qa_6, eqa_6⟩
  · subst eqa_6
    have nkra_2 : ¬ (0 ≤ u1.toInt ∧ u1.toInt < sz.toInt) := fun z_ => by rw [if_pos z_] at x0ra_2; obtain ⟨q_, h_, -⟩ := hSO u1.toInt.toNat (by omega); rw [h_] at x0ra_2; cases x0ra_2
    have hl : lv_has ls 2 [(0, .ref u0), (1, .int u1)] := hl
    show W _ _ _ _ _ _ _ _ _ _ _ _ _ _ _ (F0 m 8 ls [.null])
    refine lv_ifnonnullN hx hb dX10_drop_8 ?_
    refine lv_aload_n hx hb dX10_drop_11 rfl (lv_at hl 0 rfl) ?_
    refine lv_iconst (v := 0) hx hb dX10_drop_12 (by decide) ?_
    obtain ⟨_, ra_7⟩ := t_rec t hu0 (by decide) wf_10
    refine k_i (r_V C h hl (As := [.int 0]) (rest := []) (s_X10_refuseX l D G b0 τ f t u0 hu0 0 (iv_w (iv_k (x := 0) (k := 0) rfl) (by decide)) fq hfq k_u0_7 rq hRfq) ra_7 (Cn := RX10) (T := TX10) (N := 10) rfl rfl mk_X10_refuse w_519 w_521 w_8 w_522 ⟨Nat.le_of_ble_eq_true rfl, Nat.le_of_ble_eq_true rfl⟩ rfl (Nat.le_of_ble_eq_true rfl) ⟨Nat.le_of_ble_eq_true rfl, Nat.le_of_ble_eq_true rfl⟩ rfl dX10_drop_13) h (fun ra_8 fa_9 H locs pa_10 h => ?_)
    obtain ⟨ira_8, tfa_9, ogfa_9, ⟨rq1_fa_9, kRfqfa_9, pRfqfa_9⟩, fxfa_9⟩ := pa_10
    have ofa_9 : Fr [4, 12, 15, 18, 50, 12001, 12006, 15002, 18002] τ f fa_9 := Fr.tr o ogfa_9 (by decide) (by decide)
    have ka_11 := atp.fr k_u0_1 ogfa_9 hu0 (by decide)
    have ka_12 := atp.fr k_u0_7 ogfa_9 hu0 (by decide)
    have ka_13 := atp.fr k_bo_0 ogfa_9 hbo (by decide)
    have ka_14 := atp.fr k_bo_5 ogfa_9 hbo (by decide)
    have ka_15 := atp.fr k_bo_1 ogfa_9 hbo (by decide)
    have ka_16 := atp.fr k_bo_3 ogfa_9 hbo (by decide)
    have ka_17 := atp.fr k_sn_0 ogfa_9 hsn (by decide)
    have ka_18 := atp.fr k_sn_1 ogfa_9 hsn (by decide)
    have ka_19 := atp.fr k_sq_0 ogfa_9 hsq (by decide)
    have ka_20 := atp.fr k_sq_1 ogfa_9 hsq (by decide)
    have ka_21 := atp.fr hRqn ogfa_9 hqn (by decide)
    have ka_22 := atp.fr hRbf ogfa_9 hbf (by decide)
    have ka_23 := atp.fr hRqa ogfa_9 hqa (by decide)
    have ka_24 := FX.tr hfx fxfa_9 (by simp)
    exact u_iret C h hr hQ (⟨τ, (Ex.rf τ), (iv_w ira_8 (by decide)), tfa_9, ofa_9, ⟨fun z_ => absurd z_ (by omega), fun _ => (by omega)⟩, ⟨nx, ka_14, hnx, ⟨fun z_ => absurd z_ (by omega), fun _ => rfl⟩⟩, ⟨ac, ka_13, hac, ⟨fun z_ => absurd z_ (by omega), fun _ => rfl⟩⟩, ⟨sz, ka_18, hsz, ⟨fun z_ => absurd z_ (by omega), fun _ => rfl⟩⟩, ⟨sa, ka_20, hsa, ⟨fun z_ => absurd z_ (by omega), fun _ => rfl⟩⟩, ⟨ra, ka_23, ⟨fun z_ => absurd z_ (by omega), fun _ => rfl⟩⟩, ⟨rn, ka_21, ⟨fun z_ => absurd z_ (by omega), fun _ => rfl⟩⟩, ⟨rq1_fa_9, kRfqfa_9, (bump_eq (c := 0) pRfqfa_9 rfl (by decide) (by rw [if_pos (by omega)]))⟩, ka_24⟩) (Nat.le_of_ble_eq_true rfl) (Nat.le_of_ble_eq_true rfl) dX10_drop_16
  · subst eqa_6
    have tqa_6 : τ qa_6 = 1 := tra_2 _ rfl
    have okra_2 : (0 ≤ u1.toInt ∧ u1.toInt < sz.toInt) := by
      by_cases z_ : (0 ≤ u1.toInt ∧ u1.toInt < sz.toInt)
      · exact z_
      · rw [if_neg z_] at x0ra_2; cases x0ra_2
    rw [if_pos okra_2] at x0ra_2
    obtain ⟨q_, h_, -, wqS1, wwS1, twS1, kwS1, krS1, hwS1, kxS1, kyS1⟩ := hSO u1.toInt.toNat (by omega)
    rw [← x0ra_2] at h_; cases h_
    have hwS1 : ∀ k : Nat, k < 8 → wwS1 k = bk (10 * u1.toInt.toNat + k) := hwS1
    have kxS1 : atp f qa_6 (fd 1 (.int (bk (10 * u1.toInt.toNat + 8)))) := kxS1
    have kyS1 : atp f qa_6 (fd 2 (.int (bk (10 * u1.toInt.toNat + 9)))) := kyS1
    obtain ⟨sxS1, esxS1, isxS1⟩ : ∃ z_ : Int32, z_ = bk (10 * u1.toInt.toNat + 8) ∧ iv z_ 0 9 := ⟨_, rfl, hb9 _ (by omega)⟩
    rw [← esxS1] at kxS1
    obtain ⟨syS1, esyS1, isyS1⟩ : ∃ z_ : Int32, z_ = bk (10 * u1.toInt.toNat + 9) ∧ iv z_ 0 9 := ⟨_, rfl, hb9 _ (by omega)⟩
    rw [← esyS1] at kyS1
    have hl : lv_has ls 2 [(0, .ref u0), (1, .int u1)] := hl
    show W _ _ _ _ _ _ _ _ _ _ _ _ _ _ _ (F0 m 8 ls [.ref qa_6])
    refine lv_ifnonnull (tgt := 17) hx hb dX10_drop_8 (by decide) ?_
    refine lv_aload_n hx hb dX10_drop_17 rfl (lv_at hl 0 rfl) ?_
    refine t_getfd C h t hu0 (by decide) wf_10 (v := .ref bo) k_u0_1 fl_X10_19 dX10_drop_18 ?_
    refine lv_iload_n hx hb dX10_drop_21 rfl (lv_at hl 1 rfl) ?_
    obtain ⟨_, ra_7⟩ := t_rec t hbo (by decide) wf_12
    refine k_i (r_V C h hl (As := [.int u1]) (rest := []) (s_X0_removeX l D G b0 τ f t bo hbo u1 hu1 sq hsq ac hac k_bo_0 nx hnx k_bo_5 sn hsn k_bo_1 bf hbf k_bo_3 qn hqn k_sn_0 sz hsz k_sn_1 qa hqa k_sq_0 rn hRqn rf hRbf ra hRqa esq hab (by omega) (by omega)) ra_7 (Cn := RX0) (T := TX0) (N := 6) rfl rfl mk_X0_remove w_599 w_600 w_601 w_602 ⟨Nat.le_of_ble_eq_true rfl, Nat.le_of_ble_eq_true rfl⟩ rfl (Nat.le_of_ble_eq_true rfl) ⟨Nat.le_of_ble_eq_true rfl, Nat.le_of_ble_eq_true rfl⟩ rfl dX10_drop_22) h (fun ra_8 fa_9 H locs pa_10 h => ?_)
    obtain ⟨ira_8, tfa_9, ogfa_9, x0ra_8, ⟨nx1_fa_9, kpu0_5fa_9, ipu0_5fa_9, rpu0_5fa_9⟩, ⟨ac1_fa_9, kpu0_0fa_9, ipu0_0fa_9, rpu0_0fa_9⟩, ⟨sza_fa_9, kpsq_1fa_9, ipsq_1fa_9, rpsq_1fa_9⟩, ⟨szn_fa_9, kpsn_1fa_9, ipsn_1fa_9, rpsn_1fa_9⟩, ⟨ra1_fa_9, kRqafa_9, pRqafa_9⟩, ⟨rn1_fa_9, kRqnfa_9, pRqnfa_9⟩, fxfa_9⟩ := pa_10
    have ofa_9 : Fr [4, 12, 15, 18, 50, 12001, 12006, 15002, 18002] τ f fa_9 := Fr.tr o ogfa_9 (by decide) (by decide)
    have ka_11 := atp.fr k_u0_1 ogfa_9 hu0 (by decide)
    have ka_12 := atp.fr k_u0_7 ogfa_9 hu0 (by decide)
    have ka_13 := atp.fk k_bo_1 ogfa_9 hbo (by decide) (by decide)
    have ka_14 := atp.fk k_bo_3 ogfa_9 hbo (by decide) (by decide)
    have ka_15 := atp.fk k_sn_0 ogfa_9 hsn (by decide) (by decide)
    have ka_16 := atp.fk k_sq_0 ogfa_9 hsq (by decide) (by decide)
    have ka_17 := atp.fr hRbf ogfa_9 hbf (by decide)
    have ka_18 := atp.fr hRfq ogfa_9 hfq (by decide)
    have ka_19 := FX.tr hfx fxfa_9 (by simp)
    have ka_20 := atp.fr kwS1 ogfa_9 tqa_6 (by decide)
    have ka_21 := atp.fr krS1 ogfa_9 twS1 (by decide)
    have ka_22 := atp.fr kxS1 ogfa_9 tqa_6 (by decide)
    have ka_23 := atp.fr kyS1 ogfa_9 tqa_6 (by decide)
    exact u_iret C h hr hQ (⟨τ, (Ex.rf τ), ira_8, tfa_9, ofa_9, ⟨fun _ => (by omega), fun z_ => (z_ (by omega)).elim⟩, ⟨nx1_fa_9, kpu0_5fa_9, ipu0_5fa_9, ⟨fun _ => (by omega), fun z_ => (z_ (by omega)).elim⟩⟩, ⟨ac1_fa_9, kpu0_0fa_9, ipu0_0fa_9, ⟨fun _ => (by omega), fun z_ => (z_ (by omega)).elim⟩⟩, ⟨szn_fa_9, kpsn_1fa_9, ipsn_1fa_9, ⟨fun _ => (by omega), fun z_ => (z_ (by omega)).elim⟩⟩, ⟨sza_fa_9, kpsq_1fa_9, ipsq_1fa_9, ⟨fun _ => (by omega), fun z_ => (z_ (by omega)).elim⟩⟩, ⟨ra1_fa_9, kRqafa_9, ⟨fun _ => pRqafa_9, fun z_ => (z_ (by omega)).elim⟩⟩, ⟨rn1_fa_9, kRqnfa_9, ⟨fun _ => pRqnfa_9, fun z_ => (z_ (by omega)).elim⟩⟩, ⟨rq, ka_18, (bump_no (by rw [if_neg (by omega)]))⟩, ka_19⟩) (Nat.le_of_ble_eq_true rfl) (Nat.le_of_ble_eq_true rfl) dX10_drop_25
abbrev rm_s_X10_areDigitsX : Room := { frames := 1, cells := 0, slots := 0, locals := 22 }
set_option maxRecDepth 100000 in
set_option maxHeartbeats 4000000 in
theorem s_X10_areDigitsX (l : Launch) (D : va_G) (G : Nat → Nat) (b0 : Nat) (τ : Nat → Nat) (f : hM) (t : TI G 9 τ f) (u0 : Nat) (hu0 : τ u0 = 54) (ra : Nat → Int32) (hRu0 : atp f u0 (eqc (.inl (G 1, 8, .inl ra)))) : mI l yX10_areDigits cX10_areDigits 5 (.boolean) rm_s_X10_areDigitsX D G b0 f [.ref u0] (fun r f1 => iv r 0 1 ∧ TI G 9 τ f1 ∧ Fr [] τ f f1 ∧ (r.toInt ≠ 0 → (∀ s : Nat, s < 8 → iv (ra s) 0 9)) ∧ (r.toInt = 0 → (¬ (∀ s : Nat, s < 8 → iv (ra s) 0 9)))) := by
  refine met2 (own := RX10) (by decide) rfl (Nat.le_of_ble_eq_true rfl) ?_
  intro p e s m args below meth c ls Q hQ C hr hini hl h
  have hl : lv_has ls 5 [(0, .ref u0)] := hl
  obtain ⟨hx, hb, hml, hown, hts, hE0, hlk⟩ := id C
  have o := Fr.rf [] τ f
  have L7 : ∀ (n7 : Nat) (ls : Array Slot) (f_7 : hM) (H : Heap) (locs : List Loc) (v7_2 : Int32) (v7_3 : Int32), 8 - v7_3.toInt < (n7 : Int) → lv_has ls 5 [(1, .ref u0), (2, .int v7_2), (3, .int v7_3)] → hw D b0 s.heap f_7 H locs → TI G 9 τ f_7 → Fr [] τ f f_7 → iv v7_2 8 8 → iv v7_3 0 8 → atp f_7 u0 (eqc (.inl (G 1, 8, .inl ra))) → (∀ s : Nat, (s : Int) < v7_3.toInt → iv (ra s) 0 9) → W p l e rm_s_X10_areDigitsX s m args below meth c H locs 0 0 Q (F0 m 7 ls []) := by
    intro n7
    induction n7 with
    | zero => intro ls f_7 H locs v7_2 v7_3 hm7 hl h t_7 o_7 iv7_2 iv7_3 k7_u0_R hv7_0; exact absurd hm7 (by omega)
    | succ n7 ih7 =>
      intro ls f_7 H locs v7_2 v7_3 hm7 hl h t_7 o_7 iv7_2 iv7_3 k7_u0_R hv7_0
      refine lv_iload_n hx hb dX10_areDigits_7 rfl (lv_at hl 2 rfl) ?_
      refine lv_iload_n hx hb dX10_areDigits_8 rfl (lv_at hl 1 rfl) ?_
      refine lv_icmp_ge (tgt := 36) hx hb dX10_areDigits_9 (by decide) (fun c1 => ?_) (fun c1 => ?_)
      · have c2 : v7_2.toInt ≤ v7_3.toInt := Int32.le_iff_toInt_le.mp c1
        have i3 : iv v7_3 8 8 := iv_Er c2 iv7_2 iv7_3 (by decide)
        refine lv_iconst (v := 1) hx hb dX10_areDigits_36 (by decide) ?_
        exact u_zret C h hr hQ ⟨by decide, by decide⟩ (⟨⟨by decide, by decide⟩, t_7, o_7, (fun _ => (fun s hs => hv7_0 s (by omega))), (fun h_ => absurd h_ (by decide))⟩) (Nat.le_of_ble_eq_true rfl) (Nat.le_of_ble_eq_true rfl) dX10_areDigits_37
      · have c4 : v7_3.toInt < v7_2.toInt := Int32.lt_iff_toInt_lt.mp (iv_nle c1)
        have i5 : iv v7_3 0 7 := iv_Ll c4 iv7_3 iv7_2 (by decide)
        refine lv_aload_n hx hb dX10_areDigits_12 rfl (lv_at hl 0 rfl) ?_
        refine lv_iload_n hx hb dX10_areDigits_13 rfl (lv_at hl 2 rfl) ?_
        refine e_iald C h t_7 hu0 (by decide) wf_54 k7_u0_R (iv_in i5 (by decide)) dX10_areDigits_14 (fun z6 ez6 iz6 => ?_)
        have mz6 := congrArg Int32.toInt ez6
        refine lv_istore (lv' := [(4, .int z6), (1, .ref u0), (2, .int v7_2), (3, .int v7_3)]) hx hb dX10_areDigits_15 hl (by decide) rfl (fun ls hl => ?_)
        refine lv_iload hx hb dX10_areDigits_17 (lv_at hl 0 rfl) ?_
        refine lv_iconst (v := 0) hx hb dX10_areDigits_19 (by decide) ?_
        refine lv_bipush (v := 9) hx hb dX10_areDigits_20 (by decide) ?_
        refine k_i (r_S C h hl (As := [.int z6, .int 0, .int 9]) (rest := []) (s_X10_within l D G b0 τ f_7 t_7 z6 iz6 0 (iv_w (iv_k (x := 0) (k := 0) rfl) (by decide)) 9 (iv_w (iv_k (x := 9) (k := 9) rfl) (by decide))) mk_X10_within w_425 w_426 w_427 ⟨Nat.le_of_ble_eq_true rfl, Nat.le_of_ble_eq_true rfl⟩ rfl (Nat.le_of_ble_eq_true rfl) ⟨Nat.le_of_ble_eq_true rfl, Nat.le_of_ble_eq_true rfl⟩ rfl dX10_areDigits_22) h (fun r7 f8 H locs p9 h => ?_)
        have n10 : (0 : Int32).toInt = 0 := rfl
        have n11 : (9 : Int32).toInt = 9 := rfl
        obtain ⟨ir7, tf8, ogf8, cnr7, czr7⟩ := p9
        have egf8 := Fr.nil2 ogf8
        subst egf8
        refine lv_if_ne (tgt := 30) hx hb dX10_areDigits_25 (by decide) (fun c12 => ?_) (fun c12 => ?_)
        · have c13 : r7.toInt ≠ 0 := fun z_ => c12 (Int32.toInt_inj.mp z_)
          have i14 : iv r7 1 1 := iv_Nl c13 ir7 (by decide)
          obtain ⟨i15, i16⟩ := cnr7 c13
          have i17 : iv z6 0 9 := ⟨by omega, by omega⟩
          refine i_inc hx hb dX10_areDigits_30 hl (k := 3) rfl i5 rfl (lo := 1) (hi := 8) (by decide) (by decide) (lv' := fun v => [(3, .int v), (4, .int z6), (1, .ref u0), (2, .int v7_2)]) (fun _ => rfl) (fun z21 ls ez21 mz21 iz21 hl => ?_)
          refine lv_goto (tgt := 7) hx hb dX10_areDigits_33 (by decide) ?_
          exact ih7 ls f_7 H locs v7_2 z21 (show 8 - z21.toInt < _ by omega) (lv_cons hl 2 rfl (lv_cons hl 3 rfl (lv_cons hl 0 rfl (lv_nil hl)))) h t_7 o_7 iv7_2 (iv_w iz21 (by decide)) k7_u0_R (show ∀ s : Nat, (s : Int) < z21.toInt → iv (ra s) 0 9 from (fun s hs => by
              by_cases q_ : (s : Int) < v7_3.toInt
              · exact hv7_0 s q_
              · rw [show s = v7_3.toInt.toNat by omega, ← ez6]; omega))
        · have c18 : r7.toInt = 0 := congrArg Int32.toInt c12
          have i19 : iv r7 0 0 := iv_Q c18 ir7 (iv_k (x := 0) (k := 0) rfl) (by decide)
          have i20 := czr7 c18
          refine lv_iconst (v := 0) hx hb dX10_areDigits_28 (by decide) ?_
          exact u_zret C h hr hQ ⟨by decide, by decide⟩ (⟨⟨by decide, by decide⟩, t_7, o_7, (fun h_ => absurd h_ (by decide)), (fun _ => (fun z_ => by have h_ := z_ v7_3.toInt.toNat (by omega); rw [← ez6] at h_; omega))⟩) (Nat.le_of_ble_eq_true rfl) (Nat.le_of_ble_eq_true rfl) dX10_areDigits_29
  refine lv_aload_n hx hb dX10_areDigits_0 rfl (lv_at hl 0 rfl) ?_
  refine lv_astore_n (lv' := [(1, .ref u0), (0, .ref u0)]) hx hb dX10_areDigits_1 rfl hl (by decide) rfl (fun ls hl => ?_)
  refine lv_aload_n hx hb dX10_areDigits_2 rfl (lv_at hl 0 rfl) ?_
  refine t_alen C h t hu0 (by decide) (n := 8) (v := 8) (fun e_ h_ => Or.inl ⟨_, _, wf_54 e_ h_⟩) rfl dX10_areDigits_3 ?_
  refine lv_istore_n (lv' := [(2, .int 8), (1, .ref u0), (0, .ref u0)]) hx hb dX10_areDigits_4 rfl hl (by decide) rfl (fun ls hl => ?_)
  refine lv_iconst (v := 0) hx hb dX10_areDigits_5 (by decide) ?_
  refine lv_istore_n (lv' := [(3, .int 0), (2, .int 8), (1, .ref u0), (0, .ref u0)]) hx hb dX10_areDigits_6 rfl hl (by decide) rfl (fun ls hl => ?_)
  exact L7 9 ls f s.heap [] 8 0 (by decide) (lv_cons hl 2 rfl (lv_cons hl 1 rfl (lv_cons hl 0 rfl (lv_nil hl)))) h t o ⟨by decide, by decide⟩ ⟨by decide, by decide⟩ hRu0 (show ∀ s : Nat, (s : Int) < 0 → iv (ra s) 0 9 from (fun s hs => absurd hs (by omega)))
