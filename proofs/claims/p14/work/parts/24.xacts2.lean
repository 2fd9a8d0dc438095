theorem dX10_join_0 : decode cX10_join 0 = .ok (.aload_n 0, 1) := by decide +kernel
theorem dX10_join_1 : decode cX10_join 1 = .ok (.getfield 19, 3) := by decide +kernel
theorem dX10_join_4 : decode cX10_join 4 = .ok (.iload_n 1, 1) := by decide +kernel
theorem dX10_join_5 : decode cX10_join 5 = .ok (.invokevirtual 110, 3) := by decide +kernel
theorem dX10_join_8 : decode cX10_join 8 = .ok (.astore_n 3, 1) := by decide +kernel
theorem dX10_join_9 : decode cX10_join 9 = .ok (.aload_n 0, 1) := by decide +kernel
theorem dX10_join_10 : decode cX10_join 10 = .ok (.getfield 19, 3) := by decide +kernel
theorem dX10_join_13 : decode cX10_join 13 = .ok (.iload_n 2, 1) := by decide +kernel
theorem dX10_join_14 : decode cX10_join 14 = .ok (.invokevirtual 110, 3) := by decide +kernel
theorem dX10_join_17 : decode cX10_join 17 = .ok (.astore 4, 2) := by decide +kernel
theorem dX10_join_19 : decode cX10_join 19 = .ok (.aload_n 3, 1) := by decide +kernel
theorem dX10_join_20 : decode cX10_join 20 = .ok (.ifnull 8, 3) := by decide +kernel
theorem dX10_join_28 : decode cX10_join 28 = .ok (.aload_n 0, 1) := by decide +kernel
theorem dX10_join_29 : decode cX10_join 29 = .ok (.iconst 0, 1) := by decide +kernel
theorem dX10_join_30 : decode cX10_join 30 = .ok (.invokevirtual 95, 3) := by decide +kernel
theorem dX10_join_23 : decode cX10_join 23 = .ok (.aload 4, 2) := by decide +kernel
theorem dX10_join_25 : decode cX10_join 25 = .ok (.ifnonnull 9, 3) := by decide +kernel
theorem dX10_join_34 : decode cX10_join 34 = .ok (.bipush 8, 2) := by decide +kernel
theorem dX10_join_36 : decode cX10_join 36 = .ok (.newarray .int, 2) := by decide +kernel
theorem dX10_join_38 : decode cX10_join 38 = .ok (.astore 5, 2) := by decide +kernel
theorem dX10_join_40 : decode cX10_join 40 = .ok (.iconst 0, 1) := by decide +kernel
theorem dX10_join_41 : decode cX10_join 41 = .ok (.istore 6, 2) := by decide +kernel
theorem dX10_join_43 : decode cX10_join 43 = .ok (.iload 6, 2) := by decide +kernel
theorem dX10_join_45 : decode cX10_join 45 = .ok (.bipush 8, 2) := by decide +kernel
theorem dX10_join_47 : decode cX10_join 47 = .ok (.if_icmp .ge 30, 3) := by decide +kernel
theorem dX10_join_50 : decode cX10_join 50 = .ok (.aload 5, 2) := by decide +kernel
theorem dX10_join_52 : decode cX10_join 52 = .ok (.iload 6, 2) := by decide +kernel
theorem dX10_join_54 : decode cX10_join 54 = .ok (.aload_n 3, 1) := by decide +kernel
theorem dX10_join_55 : decode cX10_join 55 = .ok (.getfield 135, 3) := by decide +kernel
theorem w_557 : Cond.fieldLink "QuarterWalks" 135 "QuarterWalks$StepSet" "weights" "[I" ∈ wAll := wI2 222 (by decide +kernel) (by decide +kernel)
theorem fl_X10_135 : fl RX10 135 7 0 := ⟨RX6, TX6, 4, rfl, inA_X6, by decide, w_557⟩
theorem dX10_join_58 : decode cX10_join 58 = .ok (.iload 6, 2) := by decide +kernel
theorem dX10_join_60 : decode cX10_join 60 = .ok (.iaload, 1) := by decide +kernel
theorem dX10_join_61 : decode cX10_join 61 = .ok (.aload 4, 2) := by decide +kernel
theorem dX10_join_63 : decode cX10_join 63 = .ok (.getfield 135, 3) := by decide +kernel
theorem dX10_join_66 : decode cX10_join 66 = .ok (.iload 6, 2) := by decide +kernel
theorem dX10_join_68 : decode cX10_join 68 = .ok (.iaload, 1) := by decide +kernel
theorem dX10_join_69 : decode cX10_join 69 = .ok (.iadd, 1) := by decide +kernel
theorem dX10_join_70 : decode cX10_join 70 = .ok (.iastore, 1) := by decide +kernel
theorem dX10_join_71 : decode cX10_join 71 = .ok (.iinc 6 1, 3) := by decide +kernel
theorem dX10_join_74 : decode cX10_join 74 = .ok (.goto (-31), 3) := by decide +kernel
theorem dX10_join_77 : decode cX10_join 77 = .ok (.aload 5, 2) := by decide +kernel
theorem dX10_join_79 : decode cX10_join 79 = .ok (.invokestatic 138, 3) := by decide +kernel
theorem w_625 : Cond.methodLink "QuarterWalks" 138 yX10_areDigits ∈ wAll := wI3 50 (by decide +kernel) (by decide +kernel)
theorem mk_X10_areDigits : mk yX10_areDigits 1 := ⟨by decide +kernel, w_96⟩
theorem w_626 : Cond.static yX10_areDigits ∈ wAll := wI3 51 (by decide +kernel) (by decide +kernel)
theorem w_627 : Cond.code yX10_areDigits cX10_areDigits 5 (some .boolean) ∈ wAll := wI3 52 (by decide +kernel) (by decide +kernel)
theorem dX10_join_82 : decode cX10_join 82 = .ok (.ifCond .ne 9, 3) := by decide +kernel
theorem dX10_join_91 : decode cX10_join 91 = .ok (.aload_n 0, 1) := by decide +kernel
theorem dX10_join_92 : decode cX10_join 92 = .ok (.getfield 19, 3) := by decide +kernel
theorem dX10_join_95 : decode cX10_join 95 = .ok (.invokevirtual 98, 3) := by decide +kernel
theorem w_523 : Cond.methodLink "QuarterWalks" 98 yX0_isFull ∈ wAll := wI2 188 (by decide +kernel) (by decide +kernel)
theorem dX10_join_98 : decode cX10_join 98 = .ok (.ifCond .eq 9, 3) := by decide +kernel
theorem dX10_join_107 : decode cX10_join 107 = .ok (.aload_n 0, 1) := by decide +kernel
theorem dX10_join_108 : decode cX10_join 108 = .ok (.getfield 19, 3) := by decide +kernel
theorem dX10_join_111 : decode cX10_join 111 = .ok (.new 121, 3) := by decide +kernel
theorem w_613 : Cond.classLink "QuarterWalks" 121 "QuarterWalks$StepSet" ∈ wAll := wI3 38 (by decide +kernel) (by decide +kernel)
theorem w_532 : Cond.instantiable "QuarterWalks$StepSet" 4 ∈ wAll := wI2 197 (by decide +kernel) (by decide +kernel)
theorem nw_X10_121 : nw RX10 121 7 4 [.null, .int 0, .int 0, .null] := ⟨RX6, TX6, tyX6, rfl, inA_X6, tyX6_ok, w_613, w_532, w_115, by decide +kernel⟩
theorem dX10_join_114 : decode cX10_join 114 = .ok (.dup, 1) := by decide +kernel
theorem dX10_join_115 : decode cX10_join 115 = .ok (.aload 5, 2) := by decide +kernel
theorem dX10_join_117 : decode cX10_join 117 = .ok (.aload_n 3, 1) := by decide +kernel
theorem dX10_join_118 : decode cX10_join 118 = .ok (.getfield 125, 3) := by decide +kernel
theorem dX10_join_121 : decode cX10_join 121 = .ok (.aload_n 3, 1) := by decide +kernel
theorem dX10_join_122 : decode cX10_join 122 = .ok (.getfield 120, 3) := by decide +kernel
theorem dX10_join_125 : decode cX10_join 125 = .ok (.invokespecial 142, 3) := by decide +kernel
theorem w_614 : Cond.methodLink "QuarterWalks" 142 yX6_init ∈ wAll := wI3 39 (by decide +kernel) (by decide +kernel)
theorem mk_X6_init : mk yX6_init 3 := ⟨by decide +kernel, w_115⟩
theorem w_534 : Cond.instanceMethod yX6_init ∈ wAll := wI2 199 (by decide +kernel) (by decide +kernel)
theorem w_535 : Cond.code yX6_init cX6_init 4 none ∈ wAll := wI2 200 (by decide +kernel) (by decide +kernel)
theorem dX10_join_128 : decode cX10_join 128 = .ok (.invokevirtual 106, 3) := by decide +kernel
theorem w_576 : Cond.methodLink "QuarterWalks" 106 yX0_add ∈ wAll := wI3 1 (by decide +kernel) (by decide +kernel)
theorem w_578 : Cond.selects yX0_add.cls yX0_add yX0_add ∈ wAll := wI3 3 (by decide +kernel) (by decide +kernel)
theorem mk_X0_add : mk yX0_add 1 := ⟨by decide +kernel, w_98⟩
theorem w_577 : Cond.instanceMethod yX0_add ∈ wAll := wI3 2 (by decide +kernel) (by decide +kernel)
theorem w_579 : Cond.code yX0_add cX0_add 2 (some .int) ∈ wAll := wI3 4 (by decide +kernel) (by decide +kernel)
theorem dX10_join_101 : decode cX10_join 101 = .ok (.aload_n 0, 1) := by decide +kernel
theorem dX10_join_102 : decode cX10_join 102 = .ok (.iconst 2, 1) := by decide +kernel
theorem dX10_join_103 : decode cX10_join 103 = .ok (.invokevirtual 95, 3) := by decide +kernel
theorem dX10_join_85 : decode cX10_join 85 = .ok (.aload_n 0, 1) := by decide +kernel
theorem dX10_join_86 : decode cX10_join 86 = .ok (.iconst 1, 1) := by decide +kernel
theorem dX10_join_87 : decode cX10_join 87 = .ok (.invokevirtual 95, 3) := by decide +kernel
theorem dX10_join_33 : decode cX10_join 33 = .ok (.ireturn, 1) := by decide +kernel
theorem dX10_join_131 : decode cX10_join 131 = .ok (.ireturn, 1) := by decide +kernel
theorem dX10_join_106 : decode cX10_join 106 = .ok (.ireturn, 1) := by decide +kernel
theorem dX10_join_90 : decode cX10_join 90 = .ok (.ireturn, 1) := by decide +kernel
abbrev rm_s_X10_joinX : Room := { frames := 3, cells := 3, slots := 20, locals := 63 }
set_option maxRecDepth 100000 in
set_option maxHeartbeats 4000000 in
theorem s_X10_joinX (l : Launch) (D : va_G) (G : Nat → Nat) (b0 : Nat) (τ : Nat → Nat) (f : hM) (t : TI G 9 τ f) (u0 : Nat) (hu0 : τ u0 = 10) (u1 : Int32) (hu1 : iv u1 (-2147483648) 2147483647) (u2 : Int32) (hu2 : iv u2 (-2147483648) 2147483647) (sq : Nat) (hsq : τ sq = 18) (bo : Nat) (hbo : τ bo = 12) (k_u0_1 : atp f u0 (fd 1 (.ref bo))) (fq : Nat) (hfq : τ fq = 50) (k_u0_7 : atp f u0 (fd 7 (.ref fq))) (ac : Int32) (hac : iv ac 0 12) (k_bo_0 : atp f bo (fd 0 (.int ac))) (nx : Int32) (hnx : iv nx 0 11) (k_bo_5 : atp f bo (fd 5 (.int nx))) (sn : Nat) (hsn : τ sn = 15) (k_bo_1 : atp f bo (fd 1 (.ref sn))) (bf : Nat) (hbf : τ bf = 17) (k_bo_3 : atp f bo (fd 3 (.ref bf))) (qn : Nat) (hqn : τ qn = 4) (k_sn_0 : atp f sn (fd 0 (.ref qn))) (sz : Int32) (hsz : iv sz 0 8) (k_sn_1 : atp f sn (fd 1 (.int sz))) (qa : Nat) (hqa : τ qa = 4) (k_sq_0 : atp f sq (fd 0 (.ref qa))) (sa : Int32) (hsa : iv sa 0 8) (k_sq_1 : atp f sq (fd 1 (.int sa))) (rn : Nat → Option Nat) (hRqn : atp f qn (eqr G 4 8 rn)) (rf : Nat → Option Nat) (hRbf : atp f bf (eqr G 3 12 rf)) (ra : Nat → Option Nat) (hRqa : atp f qa (eqr G 4 8 ra)) (rq : Nat → Int32) (hRfq : atp f fq (eqc (.inl (G 1, 4, .inl rq)))) (esq : rf nx.toInt.toNat = some sq) (hab : qn ≠ qa) (bk : Nat → Int32) (hb9 : ∀ k : Nat, k < 80 → iv (bk k) 0 9) (hSO : ∀ j : Nat, (j : Int) < sz.toInt → ∃ q, rn j = some q ∧ SO G τ f q (fun k => bk (10 * j + k)))  : mI l yX10_join cX10_join 7 (.int) rm_s_X10_joinX D G b0 f [.ref u0, .int u1, .int u2] (fun r f1 => (∃ τ1, Ex τ τ1 ∧ iv r (-1) 8 ∧ TI G 9 τ1 f1 ∧ Fr [0, 4, 12, 15, 18, 50, 54, 12001, 12006, 15002, 18002] τ f f1 ∧ (((((0 ≤ u1.toInt ∧ u1.toInt < sz.toInt) ∧ (0 ≤ u2.toInt ∧ u2.toInt < sz.toInt) ∧ (∀ s : Nat, s < 8 → (bk (10 * u1.toInt + s).toNat).toInt + (bk (10 * u2.toInt + s).toNat).toInt ≤ 9) ∧ sz.toInt ≤ 7)) → r.toInt = sz.toInt) ∧ (¬ (((0 ≤ u1.toInt ∧ u1.toInt < sz.toInt) ∧ (0 ≤ u2.toInt ∧ u2.toInt < sz.toInt) ∧ (∀ s : Nat, s < 8 → (bk (10 * u1.toInt + s).toNat).toInt + (bk (10 * u2.toInt + s).toNat).toInt ≤ 9) ∧ sz.toInt ≤ 7)) → r.toInt = -1)) ∧ (∃ nx1 : Int32, atp f1 bo (fd 5 (.int nx1)) ∧ iv nx1 0 11 ∧ ((((0 ≤ u1.toInt ∧ u1.toInt < sz.toInt) ∧ (0 ≤ u2.toInt ∧ u2.toInt < sz.toInt) ∧ (∀ s : Nat, s < 8 → (bk (10 * u1.toInt + s).toNat).toInt + (bk (10 * u2.toInt + s).toNat).toInt ≤ 9) ∧ sz.toInt ≤ 7)) → nx1.toInt = (nx.toInt + 1) % 12) ∧ (¬ (((0 ≤ u1.toInt ∧ u1.toInt < sz.toInt) ∧ (0 ≤ u2.toInt ∧ u2.toInt < sz.toInt) ∧ (∀ s : Nat, s < 8 → (bk (10 * u1.toInt + s).toNat).toInt + (bk (10 * u2.toInt + s).toNat).toInt ≤ 9) ∧ sz.toInt ≤ 7)) → nx1.toInt = nx.toInt)) ∧ (∃ ac1 : Int32, atp f1 bo (fd 0 (.int ac1)) ∧ iv ac1 0 12 ∧ ((((0 ≤ u1.toInt ∧ u1.toInt < sz.toInt) ∧ (0 ≤ u2.toInt ∧ u2.toInt < sz.toInt) ∧ (∀ s : Nat, s < 8 → (bk (10 * u1.toInt + s).toNat).toInt + (bk (10 * u2.toInt + s).toNat).toInt ≤ 9) ∧ sz.toInt ≤ 7)) → ((ac.toInt = 12 → ac1.toInt = 12) ∧ (ac.toInt ≠ 12 → ac1.toInt = ac.toInt + 1))) ∧ (¬ (((0 ≤ u1.toInt ∧ u1.toInt < sz.toInt) ∧ (0 ≤ u2.toInt ∧ u2.toInt < sz.toInt) ∧ (∀ s : Nat, s < 8 → (bk (10 * u1.toInt + s).toNat).toInt + (bk (10 * u2.toInt + s).toNat).toInt ≤ 9) ∧ sz.toInt ≤ 7)) → ac1.toInt = ac.toInt)) ∧ (∃ szn : Int32, atp f1 sn (fd 1 (.int szn)) ∧ iv szn 0 8 ∧ ((((0 ≤ u1.toInt ∧ u1.toInt < sz.toInt) ∧ (0 ≤ u2.toInt ∧ u2.toInt < sz.toInt) ∧ (∀ s : Nat, s < 8 → (bk (10 * u1.toInt + s).toNat).toInt + (bk (10 * u2.toInt + s).toNat).toInt ≤ 9) ∧ sz.toInt ≤ 7)) → szn.toInt = sz.toInt + 1) ∧ (¬ (((0 ≤ u1.toInt ∧ u1.toInt < sz.toInt) ∧ (0 ≤ u2.toInt ∧ u2.toInt < sz.toInt) ∧ (∀ s : Nat, s < 8 → (bk (10 * u1.toInt + s).toNat).toInt + (bk (10 * u2.toInt + s).toNat).toInt ≤ 9) ∧ sz.toInt ≤ 7)) → szn.toInt = sz.toInt)) ∧ (∃ sza : Int32, atp f1 sq (fd 1 (.int sza)) ∧ iv sza 0 8 ∧ ((((0 ≤ u1.toInt ∧ u1.toInt < sz.toInt) ∧ (0 ≤ u2.toInt ∧ u2.toInt < sz.toInt) ∧ (∀ s : Nat, s < 8 → (bk (10 * u1.toInt + s).toNat).toInt + (bk (10 * u2.toInt + s).toNat).toInt ≤ 9) ∧ sz.toInt ≤ 7)) → sza.toInt = sz.toInt) ∧ (¬ (((0 ≤ u1.toInt ∧ u1.toInt < sz.toInt) ∧ (0 ≤ u2.toInt ∧ u2.toInt < sz.toInt) ∧ (∀ s : Nat, s < 8 → (bk (10 * u1.toInt + s).toNat).toInt + (bk (10 * u2.toInt + s).toNat).toInt ≤ 9) ∧ sz.toInt ≤ 7)) → sza.toInt = sa.toInt)) ∧ (∃ ra1 : Nat → Option Nat, atp f1 qa (eqr G 4 8 ra1) ∧ (((((0 ≤ u1.toInt ∧ u1.toInt < sz.toInt) ∧ (0 ≤ u2.toInt ∧ u2.toInt < sz.toInt) ∧ (∀ s : Nat, s < 8 → (bk (10 * u1.toInt + s).toNat).toInt + (bk (10 * u2.toInt + s).toNat).toInt ≤ 9) ∧ sz.toInt ≤ 7)) → ∀ k : Nat, k < 8 → ra1 k = rn k) ∧ (¬ (((0 ≤ u1.toInt ∧ u1.toInt < sz.toInt) ∧ (0 ≤ u2.toInt ∧ u2.toInt < sz.toInt) ∧ (∀ s : Nat, s < 8 → (bk (10 * u1.toInt + s).toNat).toInt + (bk (10 * u2.toInt + s).toNat).toInt ≤ 9) ∧ sz.toInt ≤ 7)) → ra1 = ra))) ∧ (∃ rn1 : Nat → Option Nat, atp f1 qn (eqr G 4 8 rn1) ∧ (((((0 ≤ u1.toInt ∧ u1.toInt < sz.toInt) ∧ (0 ≤ u2.toInt ∧ u2.toInt < sz.toInt) ∧ (∀ s : Nat, s < 8 → (bk (10 * u1.toInt + s).toNat).toInt + (bk (10 * u2.toInt + s).toNat).toInt ≤ 9) ∧ sz.toInt ≤ 7)) → ∃ z, SO G τ1 f1 z (jo bk u1.toInt u2.toInt) ∧ ∀ k : Nat, rn1 k = if k = sz.toInt.toNat then some z else rn k) ∧ (¬ (((0 ≤ u1.toInt ∧ u1.toInt < sz.toInt) ∧ (0 ≤ u2.toInt ∧ u2.toInt < sz.toInt) ∧ (∀ s : Nat, s < 8 → (bk (10 * u1.toInt + s).toNat).toInt + (bk (10 * u2.toInt + s).toNat).toInt ≤ 9) ∧ sz.toInt ≤ 7)) → rn1 = rn))) ∧ (∃ rq1 : Nat → Int32, atp f1 fq (eqc (.inl (G 1, 4, .inl rq1))) ∧ (∀ k : Nat, k < 4 → rq1 k = if (k : Int) = (if ¬ ((0 ≤ u1.toInt ∧ u1.toInt < sz.toInt) ∧ (0 ≤ u2.toInt ∧ u2.toInt < sz.toInt)) then 0 else (if ¬ (∀ s : Nat, s < 8 → (bk (10 * u1.toInt + s).toNat).toInt + (bk (10 * u2.toInt + s).toNat).toInt ≤ 9) then 1 else (if ¬ (sz.toInt ≤ 7) then 2 else -1))) then rq k + 1 else rq k)) ∧ FX [qa, sq, bo, qn, sn, fq] f f1)) := by
  refine met2 (own := RX10) (by decide) rfl (Nat.le_of_ble_eq_true rfl) ?_
  intro p e s m args below meth c ls Q hQ C hr hini hl h
  have hl : lv_has ls 7 [(0, .ref u0), (1, .int u1), (2, .int u2)] := hl
  obtain ⟨hx, hb, hml, hown, hts, hE0, hlk⟩ := id C
  have o := Fr.rf [0, 4, 12, 15, 18, 50, 54, 12001, 12006, 15002, 18002] τ f
  have hfx := FX.rf [qa, sq, bo, qn, sn, fq] f
  refine lv_aload_n hx hb dX10_join_0 rfl (lv_at hl 0 rfl) ?_
  refine t_getfd C h t hu0 (by decide) wf_10 (v := .ref bo) k_u0_1 fl_X10_19 dX10_join_1 ?_
  refine lv_iload_n hx hb dX10_join_4 rfl (lv_at hl 1 rfl) ?_
  obtain ⟨_, ra_1⟩ := t_rec t hbo (by decide) wf_12
  refine k_q (r_V C h hl (As := [.int u1]) (rest := []) (s_X0_findX l D G b0 τ f t bo hbo u1 hu1 sn hsn k_bo_1 qn hqn k_sn_0 sz hsz k_sn_1 rn hRqn) ra_1 (Cn := RX0) (T := TX0) (N := 6) rfl rfl mk_X0_find w_594 w_595 w_596 w_597 ⟨Nat.le_of_ble_eq_true rfl, Nat.le_of_ble_eq_true rfl⟩ rfl (Nat.le_of_ble_eq_true rfl) ⟨Nat.le_of_ble_eq_true rfl, Nat.le_of_ble_eq_true rfl⟩ rfl dX10_join_5) h (fun ra_2 fa_3 H locs pa_4 h => ?_)
  obtain ⟨qra_2, tfa_3, ogfa_3, x0ra_2⟩ := pa_4
  have egfa_3 := Fr.nil2 ogfa_3
  subst egfa_3
  have tra_2 := qra_2
  refine lv_astore_nO (lv' := [(3, va_rf ra_2), (0, .ref u0), (1, .int u1), (2, .int u2)]) hx hb dX10_join_8 rfl hl (by decide) rfl (fun ls hl => ?_)
  refine lv_aload_n hx hb dX10_join_9 rfl (lv_at hl 1 rfl) ?_
  refine t_getfd C h t hu0 (by decide) wf_10 (v := .ref bo) k_u0_1 fl_X10_19 dX10_join_10 ?_
  refine lv_iload_n hx hb dX10_join_13 rfl (lv_at hl 3 rfl) ?_
  obtain ⟨_, ra_6⟩ := t_rec t hbo (by decide) wf_12
  refine k_q (r_V C h hl (As := [.int u2]) (rest := []) (s_X0_findX l D G b0 τ f t bo hbo u2 hu2 sn hsn k_bo_1 qn hqn k_sn_0 sz hsz k_sn_1 rn hRqn) ra_6 (Cn := RX0) (T := TX0) (N := 6) rfl rfl mk_X0_find w_594 w_595 w_596 w_597 ⟨Nat.le_of_ble_eq_true rfl, Nat.le_of_ble_eq_true rfl⟩ rfl (Nat.le_of_ble_eq_true rfl) ⟨Nat.le_of_ble_eq_true rfl, Nat.le_of_ble_eq_true rfl⟩ rfl dX10_join_14) h (fun ra_7 fa_8 H locs pa_9 h => ?_)
  obtain ⟨qra_7, tfa_8, ogfa_8, x0ra_7⟩ := pa_9
  have egfa_8 := Fr.nil2 ogfa_8
  subst egfa_8
  have tra_7 := qra_7
  refine lv_astoreO (lv' := [(4, va_rf ra_7), (3, va_rf ra_2), (0, .ref u0), (1, .int u1), (2, .int u2)]) hx hb dX10_join_17 hl (by decide) (by simp [va_rfcat]) (fun ls hl => ?_)
  refine lv_aload_nO hx hb dX10_join_19 rfl (lv_at hl 1 rfl) ?_
  rcases va_rfc ra_2 with eqa_11 | ⟨qa_11, eqa_11⟩
  · subst eqa_11
    have nkra_2 : ¬ (0 ≤ u1.toInt ∧ u1.toInt < sz.toInt) := fun z_ => by rw [if_pos z_] at x0ra_2; obtain ⟨q_, h_, -⟩ := hSO u1.toInt.toNat (by omega); rw [h_] at x0ra_2; cases x0ra_2
    have hl : lv_has ls 7 [(4, va_rf ra_7), (3, .null), (0, .ref u0), (1, .int u1), (2, .int u2)] := hl
    show W _ _ _ _ _ _ _ _ _ _ _ _ _ _ _ (F0 m 20 ls [.null])
    refine lv_ifnullN (tgt := 28) hx hb dX10_join_20 (by decide) ?_
    refine lv_aload_n hx hb dX10_join_28 rfl (lv_at hl 2 rfl) ?_
    refine lv_iconst (v := 0) hx hb dX10_join_29 (by decide) ?_
    obtain ⟨_, ra_12⟩ := t_rec t hu0 (by decide) wf_10
    refine k_i (r_V C h hl (As := [.int 0]) (rest := []) (s_X10_refuseX l D G b0 τ f t u0 hu0 0 (iv_w (iv_k (x := 0) (k := 0) rfl) (by decide)) fq hfq k_u0_7 rq hRfq) ra_12 (Cn := RX10) (T := TX10) (N := 10) rfl rfl mk_X10_refuse w_519 w_521 w_8 w_522 ⟨Nat.le_of_ble_eq_true rfl, Nat.le_of_ble_eq_true rfl⟩ rfl (Nat.le_of_ble_eq_true rfl) ⟨Nat.le_of_ble_eq_true rfl, Nat.le_of_ble_eq_true rfl⟩ rfl dX10_join_30) h (fun ra_13 fa_14 H locs pa_15 h => ?_)
    obtain ⟨ira_13, tfa_14, ogfa_14, ⟨rq1_fa_14, kRfqfa_14, pRfqfa_14⟩, fxfa_14⟩ := pa_15
    have ofa_14 : Fr [0, 4, 12, 15, 18, 50, 54, 12001, 12006, 15002, 18002] τ f fa_14 := Fr.tr o ogfa_14 (by decide) (by decide)
    have ka_16 := atp.fr k_u0_1 ogfa_14 hu0 (by decide)
    have ka_17 := atp.fr k_u0_7 ogfa_14 hu0 (by decide)
    have ka_18 := atp.fr k_bo_0 ogfa_14 hbo (by decide)
    have ka_19 := atp.fr k_bo_5 ogfa_14 hbo (by decide)
    have ka_20 := atp.fr k_bo_1 ogfa_14 hbo (by decide)
    have ka_21 := atp.fr k_bo_3 ogfa_14 hbo (by decide)
    have ka_22 := atp.fr k_sn_0 ogfa_14 hsn (by decide)
    have ka_23 := atp.fr k_sn_1 ogfa_14 hsn (by decide)
    have ka_24 := atp.fr k_sq_0 ogfa_14 hsq (by decide)
    have ka_25 := atp.fr k_sq_1 ogfa_14 hsq (by decide)
    have ka_26 := atp.fr hRqn ogfa_14 hqn (by decide)
    have ka_27 := atp.fr hRbf ogfa_14 hbf (by decide)
    have ka_28 := atp.fr hRqa ogfa_14 hqa (by decide)
    have ka_29 := FX.tr hfx fxfa_14 (by simp)
    exact u_iret C h hr hQ (⟨τ, (Ex.rf τ), (iv_w ira_13 (by decide)), tfa_14, ofa_14, ⟨fun z_ => absurd z_ (by omega), fun _ => (by omega)⟩, ⟨nx, ka_19, hnx, ⟨fun z_ => absurd z_ (by omega), fun _ => rfl⟩⟩, ⟨ac, ka_18, hac, ⟨fun z_ => absurd z_ (by omega), fun _ => rfl⟩⟩, ⟨sz, ka_23, hsz, ⟨fun z_ => absurd z_ (by omega), fun _ => rfl⟩⟩, ⟨sa, ka_25, hsa, ⟨fun z_ => absurd z_ (by omega), fun _ => rfl⟩⟩, ⟨ra, ka_28, ⟨fun z_ => absurd z_ (by omega), fun _ => rfl⟩⟩, ⟨rn, ka_26, ⟨fun z_ => absurd z_ (by omega), fun _ => rfl⟩⟩, ⟨rq1_fa_14, kRfqfa_14, (bump_eq (c := 0) pRfqfa_14 rfl (by decide) (by rw [if_pos (by omega)]))⟩, ka_29⟩) (Nat.le_of_ble_eq_true rfl) (Nat.le_of_ble_eq_true rfl) dX10_join_33
  · subst eqa_11
    have tqa_11 : τ qa_11 = 1 := tra_2 _ rfl
    have okra_2 : (0 ≤ u1.toInt ∧ u1.toInt < sz.toInt) := by
      by_cases z_ : (0 ≤ u1.toInt ∧ u1.toInt < sz.toInt)
      · exact z_
      · rw [if_neg z_] at x0ra_2; cases x0ra_2
    rw [if_pos okra_2] at x0ra_2
    obtain ⟨q_, h_, -, wqS1, wwS1, twS1, kwS1, krS1, hwS1, kxS1, kyS1⟩ := hSO u1.toInt.toNat (by omega)
    rw [← x0ra_2] at h_; cases h_
    have hwS1 : ∀ k : Nat, k < 8 → wwS1 k = bk (10 * u1.toInt.toNat + k) := hwS1
    have kxS1 : atp f qa_11 (fd 1 (.int (bk (10 * u1.toInt.toNat + 8)))) := kxS1
    have kyS1 : atp f qa_11 (fd 2 (.int (bk (10 * u1.toInt.toNat + 9)))) := kyS1
    obtain ⟨sxS1, esxS1, isxS1⟩ : ∃ z_ : Int32, z_ = bk (10 * u1.toInt.toNat + 8) ∧ iv z_ 0 9 := ⟨_, rfl, hb9 _ (by omega)⟩
    rw [← esxS1] at kxS1
    obtain ⟨syS1, esyS1, isyS1⟩ : ∃ z_ : Int32, z_ = bk (10 * u1.toInt.toNat + 9) ∧ iv z_ 0 9 := ⟨_, rfl, hb9 _ (by omega)⟩
    rw [← esyS1] at kyS1
    have hl : lv_has ls 7 [(4, va_rf ra_7), (3, .ref qa_11), (0, .ref u0), (1, .int u1), (2, .int u2)] := hl
    show W _ _ _ _ _ _ _ _ _ _ _ _ _ _ _ (F0 m 20 ls [.ref qa_11])
    refine lv_ifnull hx hb dX10_join_20 ?_
    refine lv_aloadO hx hb dX10_join_23 (lv_at hl 0 rfl) ?_
    rcases va_rfc ra_7 with eqa_12 | ⟨qa_12, eqa_12⟩
    · subst eqa_12
      have nkra_7 : ¬ (0 ≤ u2.toInt ∧ u2.toInt < sz.toInt) := fun z_ => by rw [if_pos z_] at x0ra_7; obtain ⟨q_, h_, -⟩ := hSO u2.toInt.toNat (by omega); rw [h_] at x0ra_7; cases x0ra_7
      have hl : lv_has ls 7 [(4, .null), (3, .ref qa_11), (0, .ref u0), (1, .int u1), (2, .int u2)] := hl
      show W _ _ _ _ _ _ _ _ _ _ _ _ _ _ _ (F0 m 25 ls [.null])
      refine lv_ifnonnullN hx hb dX10_join_25 ?_
      refine lv_aload_n hx hb dX10_join_28 rfl (lv_at hl 2 rfl) ?_
      refine lv_iconst (v := 0) hx hb dX10_join_29 (by decide) ?_
      obtain ⟨_, ra_13⟩ := t_rec t hu0 (by decide) wf_10
      refine k_i (r_V C h hl (As := [.int 0]) (rest := []) (s_X10_refuseX l D G b0 τ f t u0 hu0 0 (iv_w (iv_k (x := 0) (k := 0) rfl) (by decide)) fq hfq k_u0_7 rq hRfq) ra_13 (Cn := RX10) (T := TX10) (N := 10) rfl rfl mk_X10_refuse w_519 w_521 w_8 w_522 ⟨Nat.le_of_ble_eq_true rfl, Nat.le_of_ble_eq_true rfl⟩ rfl (Nat.le_of_ble_eq_true rfl) ⟨Nat.le_of_ble_eq_true rfl, Nat.le_of_ble_eq_true rfl⟩ rfl dX10_join_30) h (fun ra_14 fa_15 H locs pa_16 h => ?_)
      obtain ⟨ira_14, tfa_15, ogfa_15, ⟨rq1_fa_15, kRfqfa_15, pRfqfa_15⟩, fxfa_15⟩ := pa_16
      have ofa_15 : Fr [0, 4, 12, 15, 18, 50, 54, 12001, 12006, 15002, 18002] τ f fa_15 := Fr.tr o ogfa_15 (by decide) (by decide)
      have ka_17 := atp.fr k_u0_1 ogfa_15 hu0 (by decide)
      have ka_18 := atp.fr k_u0_7 ogfa_15 hu0 (by decide)
      have ka_19 := atp.fr k_bo_0 ogfa_15 hbo (by decide)
      have ka_20 := atp.fr k_bo_5 ogfa_15 hbo (by decide)
      have ka_21 := atp.fr k_bo_1 ogfa_15 hbo (by decide)
      have ka_22 := atp.fr k_bo_3 ogfa_15 hbo (by decide)
      have ka_23 := atp.fr k_sn_0 ogfa_15 hsn (by decide)
      have ka_24 := atp.fr k_sn_1 ogfa_15 hsn (by decide)
      have ka_25 := atp.fr k_sq_0 ogfa_15 hsq (by decide)
      have ka_26 := atp.fr k_sq_1 ogfa_15 hsq (by decide)
      have ka_27 := atp.fr hRqn ogfa_15 hqn (by decide)
      have ka_28 := atp.fr hRbf ogfa_15 hbf (by decide)
      have ka_29 := atp.fr hRqa ogfa_15 hqa (by decide)
      have ka_30 := FX.tr hfx fxfa_15 (by simp)
      have ka_31 := atp.fr kwS1 ogfa_15 tqa_11 (by decide)
      have ka_32 := atp.fr krS1 ogfa_15 twS1 (by decide)
      have ka_33 := atp.fr kxS1 ogfa_15 tqa_11 (by decide)
      have ka_34 := atp.fr kyS1 ogfa_15 tqa_11 (by decide)
      exact u_iret C h hr hQ (⟨τ, (Ex.rf τ), (iv_w ira_14 (by decide)), tfa_15, ofa_15, ⟨fun z_ => absurd z_ (by omega), fun _ => (by omega)⟩, ⟨nx, ka_20, hnx, ⟨fun z_ => absurd z_ (by omega), fun _ => rfl⟩⟩, ⟨ac, ka_19, hac, ⟨fun z_ => absurd z_ (by omega), fun _ => rfl⟩⟩, ⟨sz, ka_24, hsz, ⟨fun z_ => absurd z_ (by omega), fun _ => rfl⟩⟩, ⟨sa, ka_26, hsa, ⟨fun z_ => absurd z_ (by omega), fun _ => rfl⟩⟩, ⟨ra, ka_29, ⟨fun z_ => absurd z_ (by omega), fun _ => rfl⟩⟩, ⟨rn, ka_27, ⟨fun z_ => absurd z_ (by omega), fun _ => rfl⟩⟩, ⟨rq1_fa_15, kRfqfa_15, (bump_eq (c := 0) pRfqfa_15 rfl (by decide) (by rw [if_pos (by omega)]))⟩, ka_30⟩) (Nat.le_of_ble_eq_true rfl) (Nat.le_of_ble_eq_true rfl) dX10_join_33
    · subst eqa_12
      have tqa_12 : τ qa_12 = 1 := tra_7 _ rfl
      have okra_7 : (0 ≤ u2.toInt ∧ u2.toInt < sz.toInt) := by
        by_cases z_ : (0 ≤ u2.toInt ∧ u2.toInt < sz.toInt)
        · exact z_
        · rw [if_neg z_] at x0ra_7; cases x0ra_7
      rw [if_pos okra_7] at x0ra_7
      obtain ⟨q_, h_, -, wqS2, wwS2, twS2, kwS2, krS2, hwS2, kxS2, kyS2⟩ := hSO u2.toInt.toNat (by omega)
      rw [← x0ra_7] at h_; cases h_
      have hwS2 : ∀ k : Nat, k < 8 → wwS2 k = bk (10 * u2.toInt.toNat + k) := hwS2
      have kxS2 : atp f qa_12 (fd 1 (.int (bk (10 * u2.toInt.toNat + 8)))) := kxS2
      have kyS2 : atp f qa_12 (fd 2 (.int (bk (10 * u2.toInt.toNat + 9)))) := kyS2
      obtain ⟨sxS2, esxS2, isxS2⟩ : ∃ z_ : Int32, z_ = bk (10 * u2.toInt.toNat + 8) ∧ iv z_ 0 9 := ⟨_, rfl, hb9 _ (by omega)⟩
      rw [← esxS2] at kxS2
      obtain ⟨syS2, esyS2, isyS2⟩ : ∃ z_ : Int32, z_ = bk (10 * u2.toInt.toNat + 9) ∧ iv z_ 0 9 := ⟨_, rfl, hb9 _ (by omega)⟩
      rw [← esyS2] at kyS2
      have hl : lv_has ls 7 [(4, .ref qa_12), (3, .ref qa_11), (0, .ref u0), (1, .int u1), (2, .int u2)] := hl
      show W _ _ _ _ _ _ _ _ _ _ _ _ _ _ _ (F0 m 25 ls [.ref qa_12])
      refine lv_ifnonnull (tgt := 34) hx hb dX10_join_25 (by decide) ?_
      refine lv_bipush (v := 8) hx hb dX10_join_34 (by decide) ?_
      refine q_newa C h (atype := .int) 1 rfl rfl rfl w_161 (a0 := (8, .inl (fun _ => 0))) (fun _ => rfl) (by decide) (N' := 8) (by decide) (Nat.le_of_ble_eq_true rfl) (Nat.le_of_ble_eq_true rfl) (Nat.le_of_ble_eq_true rfl) dX10_join_36 (fun nw H nnw h => ?_)
      have nfnw := nfr hfx nnw
      have tfa_14 := TI.new (tg := 54) (e := (.inl (G 1, 8, .inl (fun _ => 0)))) t nnw (fw_54 _ ⟨_, rfl, fun j => ⟨by decide, by decide⟩⟩)
      have esnw : Ex τ (tu τ nw 54) := TI.newEx t nnw
      have ozfa_14 : Fr [0, 4, 12, 15, 18, 50, 54, 12001, 12006, 15002, 18002] τ f (hu f nw (.inl (G 1, 8, .inl (fun _ => 0)))) := Fr.new o nnw (TI.zero t nnw) (by decide)
      have tqnw : tu τ nw 54 nw = 54 := tu_self _ _ _
      generalize tu τ nw 54 = τnw at tfa_14 esnw tqnw
      have ka_15 := atp.new k_u0_1 nnw (e := (.inl (G 1, 8, .inl (fun _ => 0))))
      have ka_16 := atp.new k_u0_7 nnw (e := (.inl (G 1, 8, .inl (fun _ => 0))))
      have ka_17 := atp.new k_bo_0 nnw (e := (.inl (G 1, 8, .inl (fun _ => 0))))
      have ka_18 := atp.new k_bo_5 nnw (e := (.inl (G 1, 8, .inl (fun _ => 0))))
      have ka_19 := atp.new k_bo_1 nnw (e := (.inl (G 1, 8, .inl (fun _ => 0))))
      have ka_20 := atp.new k_bo_3 nnw (e := (.inl (G 1, 8, .inl (fun _ => 0))))
      have ka_21 := atp.new k_sn_0 nnw (e := (.inl (G 1, 8, .inl (fun _ => 0))))
      have ka_22 := atp.new k_sn_1 nnw (e := (.inl (G 1, 8, .inl (fun _ => 0))))
      have ka_23 := atp.new k_sq_0 nnw (e := (.inl (G 1, 8, .inl (fun _ => 0))))
      have ka_24 := atp.new k_sq_1 nnw (e := (.inl (G 1, 8, .inl (fun _ => 0))))
      have ka_25 := atp.new hRqn nnw (e := (.inl (G 1, 8, .inl (fun _ => 0))))
      have ka_26 := atp.new hRbf nnw (e := (.inl (G 1, 8, .inl (fun _ => 0))))
      have ka_27 := atp.new hRqa nnw (e := (.inl (G 1, 8, .inl (fun _ => 0))))
      have ka_28 := atp.new hRfq nnw (e := (.inl (G 1, 8, .inl (fun _ => 0))))
      have ka_29 := FX.new hfx nnw (e := (.inl (G 1, 8, .inl (fun _ => 0))))
      have ka_30 := atp.new kwS1 nnw (e := (.inl (G 1, 8, .inl (fun _ => 0))))
      have ka_31 := atp.new krS1 nnw (e := (.inl (G 1, 8, .inl (fun _ => 0))))
      have ka_32 := atp.new kxS1 nnw (e := (.inl (G 1, 8, .inl (fun _ => 0))))
      have ka_33 := atp.new kyS1 nnw (e := (.inl (G 1, 8, .inl (fun _ => 0))))
      have ka_34 := atp.new kwS2 nnw (e := (.inl (G 1, 8, .inl (fun _ => 0))))
      have ka_35 := atp.new krS2 nnw (e := (.inl (G 1, 8, .inl (fun _ => 0))))
      have ka_36 := atp.new kxS2 nnw (e := (.inl (G 1, 8, .inl (fun _ => 0))))
      have ka_37 := atp.new kyS2 nnw (e := (.inl (G 1, 8, .inl (fun _ => 0))))
      have kRnw : atp (hu f nw (.inl (G 1, 8, .inl (fun _ => 0)))) nw (eqc (.inl (G 1, 8, .inl (fun _ => 0)))) := ⟨_, hu_self _ _ _, rfl⟩
      generalize hu f nw (.inl (G 1, 8, .inl (fun _ => 0))) = fa_14 at h tfa_14 ozfa_14 ka_15 ka_16 ka_17 ka_18 ka_19 ka_20 ka_21 ka_22 ka_23 ka_24 ka_25 ka_26 ka_27 ka_28 ka_29 ka_30 ka_31 ka_32 ka_33 ka_34 ka_35 ka_36 ka_37 kRnw
      have Ofa_14 : Fr [0, 4, 12, 15, 18, 50, 54, 12001, 12006, 15002, 18002] τ f fa_14 := ozfa_14
      have xfa_14 : Ex τ τnw := esnw
      have ha_38 : τnw u0 = 10 := Ex.at esnw hu0 (by decide)
      have ha_39 : τnw qa_11 = 1 := Ex.at esnw tqa_11 (by decide)
      have ha_40 : τnw qa_12 = 1 := Ex.at esnw tqa_12 (by decide)
      have ha_41 : τnw bo = 12 := Ex.at esnw hbo (by decide)
      have ha_42 : τnw fq = 50 := Ex.at esnw hfq (by decide)
      have ha_43 : τnw sn = 15 := Ex.at esnw hsn (by decide)
      have ha_44 : τnw bf = 17 := Ex.at esnw hbf (by decide)
      have ha_45 : τnw qn = 4 := Ex.at esnw hqn (by decide)
      have ha_46 : τnw qa = 4 := Ex.at esnw hqa (by decide)
      have ha_47 : τnw wqS1 = 2 := Ex.at esnw twS1 (by decide)
      have ha_48 : τnw wqS2 = 2 := Ex.at esnw twS2 (by decide)
      have ha_49 : τnw sq = 18 := Ex.at esnw hsq (by decide)
      have ofa_14z := Fr.rf [0, 4, 12, 15, 18, 50, 54, 12001, 12006, 15002, 18002] τnw fa_14
      refine lv_astore (lv' := [(5, .ref nw), (4, .ref qa_12), (3, .ref qa_11), (0, .ref u0), (1, .int u1), (2, .int u2)]) hx hb dX10_join_38 hl (by decide) rfl (fun ls hl => ?_)
      refine lv_iconst (v := 0) hx hb dX10_join_40 (by decide) ?_
      refine lv_istore (lv' := [(6, .int 0), (5, .ref nw), (4, .ref qa_12), (3, .ref qa_11), (0, .ref u0), (1, .int u1), (2, .int u2)]) hx hb dX10_join_41 hl (by decide) rfl (fun ls hl => ?_)
      have L43 : ∀ (n43 : Nat) (ls : Array Slot) (f_43 : hM) (H : Heap) (locs : List Loc) (v43_6 : Int32) (g43_nw_R : Nat → Int32), 8 - v43_6.toInt < (n43 : Int) → lv_has ls 7 [(0, .ref u0), (3, .ref qa_11), (4, .ref qa_12), (5, .ref nw), (6, .int v43_6)] → hw D b0 s.heap f_43 H locs → TI G 9 τnw f_43 → Fr [0, 4, 12, 15, 18, 50, 54, 12001, 12006, 15002, 18002] τnw fa_14 f_43 → iv v43_6 0 8 → iv ac 0 12 → iv nx 0 11 → iv sz 0 8 → iv sa 0 8 → iv sxS1 0 9 → iv syS1 0 9 → iv sxS2 0 9 → iv syS2 0 9 → atp f_43 u0 (fd 1 (.ref bo)) → atp f_43 u0 (fd 7 (.ref fq)) → atp f_43 bo (fd 0 (.int ac)) → atp f_43 bo (fd 5 (.int nx)) → atp f_43 bo (fd 1 (.ref sn)) → atp f_43 bo (fd 3 (.ref bf)) → atp f_43 sn (fd 0 (.ref qn)) → atp f_43 sn (fd 1 (.int sz)) → atp f_43 sq (fd 0 (.ref qa)) → atp f_43 sq (fd 1 (.int sa)) → atp f_43 qn (eqr G 4 8 rn) → atp f_43 bf (eqr G 3 12 rf) → atp f_43 qa (eqr G 4 8 ra) → atp f_43 fq (eqc (.inl (G 1, 4, .inl rq))) → FX [qa, sq, bo, qn, sn, fq] f f_43 → atp f_43 qa_11 (fd 0 (.ref wqS1)) → atp f_43 wqS1 (eqc (.inl (G 1, 8, .inl wwS1))) → atp f_43 qa_11 (fd 1 (.int sxS1)) → atp f_43 qa_11 (fd 2 (.int syS1)) → atp f_43 qa_12 (fd 0 (.ref wqS2)) → atp f_43 wqS2 (eqc (.inl (G 1, 8, .inl wwS2))) → atp f_43 qa_12 (fd 1 (.int sxS2)) → atp f_43 qa_12 (fd 2 (.int syS2)) → atp f_43 nw (eqc (.inl (G 1, 8, .inl g43_nw_R))) → (∀ k : Nat, g43_nw_R k = if (k : Int) < v43_6.toInt then wwS1 k + wwS2 k else 0) → W p l e rm_s_X10_joinX s m args below meth c H locs 1 8 Q (F0 m 43 ls []) := by
        intro n43
        induction n43 with
        | zero => intro ls f_43 H locs v43_6 g43_nw_R hm43 hl h t_43 o_43 iv43_6 jg43_bo_0 jg43_bo_5 jg43_sn_1 jg43_sq_1 jg43_qa_11_1 jg43_qa_11_2 jg43_qa_12_1 jg43_qa_12_2 k43_u0_1 k43_u0_7 k43_bo_0 k43_bo_5 k43_bo_1 k43_bo_3 k43_sn_0 k43_sn_1 k43_sq_0 k43_sq_1 k43_qn_R k43_bf_R k43_qa_R k43_fq_R k43_fx_FX k43_qa_11_0 k43_wqS1_R k43_qa_11_1 k43_qa_11_2 k43_qa_12_0 k43_wqS2_R k43_qa_12_1 k43_qa_12_2 k43_nw_R hv43_0; exact absurd hm43 (by omega)
        | succ n43 ih43 =>
          intro ls f_43 H locs v43_6 g43_nw_R hm43 hl h t_43 o_43 iv43_6 jg43_bo_0 jg43_bo_5 jg43_sn_1 jg43_sq_1 jg43_qa_11_1 jg43_qa_11_2 jg43_qa_12_1 jg43_qa_12_2 k43_u0_1 k43_u0_7 k43_bo_0 k43_bo_5 k43_bo_1 k43_bo_3 k43_sn_0 k43_sn_1 k43_sq_0 k43_sq_1 k43_qn_R k43_bf_R k43_qa_R k43_fq_R k43_fx_FX k43_qa_11_0 k43_wqS1_R k43_qa_11_1 k43_qa_11_2 k43_qa_12_0 k43_wqS2_R k43_qa_12_1 k43_qa_12_2 k43_nw_R hv43_0
          refine lv_iload hx hb dX10_join_43 (lv_at hl 4 rfl) ?_
          refine lv_bipush (v := 8) hx hb dX10_join_45 (by decide) ?_
          refine lv_icmp_ge (tgt := 77) hx hb dX10_join_47 (by decide) (fun cab43_1 => ?_) (fun cab43_1 => ?_)
          · have cab43_2 : 8 ≤ v43_6.toInt := Int32.le_iff_toInt_le.mp cab43_1
            have iab43_3 : iv v43_6 8 8 := iv_Er cab43_2 (iv_k (x := 8) (k := 8) rfl) iv43_6 (by decide)
            refine lv_aload hx hb dX10_join_77 (lv_at hl 3 rfl) ?_
            refine k_i (r_S C h hl (As := [.ref nw]) (rest := []) (s_X10_areDigitsX l D G b0 τnw f_43 t_43 nw tqnw g43_nw_R k43_nw_R) mk_X10_areDigits w_625 w_626 w_627 ⟨Nat.le_of_ble_eq_true rfl, Nat.le_of_ble_eq_true rfl⟩ rfl (Nat.le_of_ble_eq_true rfl) ⟨Nat.le_of_ble_eq_true rfl, Nat.le_of_ble_eq_true rfl⟩ rfl dX10_join_79) h (fun rab43_4 fab43_5 H locs pab43_6 h => ?_)
            obtain ⟨irab43_4, tfab43_5, ogfab43_5, cnrab43_4, czrab43_4⟩ := pab43_6
            have egfab43_5 := Fr.nil2 ogfab43_5
            subst egfab43_5
            refine lv_if_ne (tgt := 91) hx hb dX10_join_82 (by decide) (fun cab43_7 => ?_) (fun cab43_7 => ?_)
            · have cab43_8 : rab43_4.toInt ≠ 0 := fun z_ => cab43_7 (Int32.toInt_inj.mp z_)
              have iab43_9 : iv rab43_4 1 1 := iv_Nl cab43_8 irab43_4 (by decide)
              have iab43_10 := cnrab43_4 cab43_8
              refine lv_aload_n hx hb dX10_join_91 rfl (lv_at hl 0 rfl) ?_
              refine t_getfd C h t_43 ha_38 (by decide) wf_10 (v := .ref bo) k43_u0_1 fl_X10_19 dX10_join_92 ?_
              obtain ⟨_, rab43_11⟩ := t_rec t_43 ha_41 (by decide) wf_12
              refine k_i (r_V C h hl (As := []) (rest := []) (s_X0_isFullX l D G b0 τnw f_43 t_43 bo ha_41 sn ha_43 k43_bo_1 qn ha_45 k43_sn_0 sz jg43_sn_1 k43_sn_1) rab43_11 (Cn := RX0) (T := TX0) (N := 6) rfl rfl mk_X0_isFull w_523 w_524 w_525 w_526 ⟨Nat.le_of_ble_eq_true rfl, Nat.le_of_ble_eq_true rfl⟩ rfl (Nat.le_of_ble_eq_true rfl) ⟨Nat.le_of_ble_eq_true rfl, Nat.le_of_ble_eq_true rfl⟩ rfl dX10_join_95) h (fun rab43_12 fab43_13 H locs pab43_14 h => ?_)
              obtain ⟨irab43_12, tfab43_13, ogfab43_13, cnrab43_12, czrab43_12⟩ := pab43_14
              have egfab43_13 := Fr.nil2 ogfab43_13
              subst egfab43_13
              refine lv_if_eq (tgt := 107) hx hb dX10_join_98 (by decide) (fun cab43_15 => ?_) (fun cab43_15 => ?_)
              · have cab43_16 : rab43_12.toInt = 0 := congrArg Int32.toInt cab43_15
                have iab43_17 : iv rab43_12 0 0 := iv_Q cab43_16 irab43_12 (iv_k (x := 0) (k := 0) rfl) (by decide)
                have iab43_18 := czrab43_12 cab43_16
                refine lv_aload_n hx hb dX10_join_107 rfl (lv_at hl 0 rfl) ?_
                refine t_getfd C h t_43 ha_38 (by decide) wf_10 (v := .ref bo) k43_u0_1 fl_X10_19 dX10_join_108 ?_
                refine q_new C h nw_X10_121 (Nat.le_of_ble_eq_true rfl) (Nat.le_of_ble_eq_true rfl) dX10_join_111 (fun qab43_19 H nqab43_19 h => ?_)
                have tzqab43_19 := TI.zero t_43 nqab43_19
                have tfab43_20 := TI.raw (e := (.inr (7, [.null, .int 0, .int 0, .null]))) t_43 tzqab43_19
                have ofab43_20 : Fr [0, 4, 12, 15, 18, 50, 54, 12001, 12006, 15002, 18002] τnw fa_14 (hu f_43 qab43_19 (.inr (7, [.null, .int 0, .int 0, .null]))) := Fr.new o_43 nqab43_19 tzqab43_19 (by decide)
                have nfqab43_19 := nfr k43_fx_FX nqab43_19
                have rwqab43_19 : hu f_43 qab43_19 (.inr (7, [.null, .int 0, .int 0, .null])) qab43_19 = some (.inr (7, [.null, .int 0, .int 0, .null])) := hu_self _ _ _
                have kab43_21 := atp.new k43_u0_1 nqab43_19 (e := (.inr (7, [.null, .int 0, .int 0, .null])))
                have kab43_22 := atp.new k43_u0_7 nqab43_19 (e := (.inr (7, [.null, .int 0, .int 0, .null])))
                have kab43_23 := atp.new k43_bo_0 nqab43_19 (e := (.inr (7, [.null, .int 0, .int 0, .null])))
                have kab43_24 := atp.new k43_bo_5 nqab43_19 (e := (.inr (7, [.null, .int 0, .int 0, .null])))
                have kab43_25 := atp.new k43_bo_1 nqab43_19 (e := (.inr (7, [.null, .int 0, .int 0, .null])))
                have kab43_26 := atp.new k43_bo_3 nqab43_19 (e := (.inr (7, [.null, .int 0, .int 0, .null])))
                have kab43_27 := atp.new k43_sn_0 nqab43_19 (e := (.inr (7, [.null, .int 0, .int 0, .null])))
                have kab43_28 := atp.new k43_sn_1 nqab43_19 (e := (.inr (7, [.null, .int 0, .int 0, .null])))
                have kab43_29 := atp.new k43_sq_0 nqab43_19 (e := (.inr (7, [.null, .int 0, .int 0, .null])))
                have kab43_30 := atp.new k43_sq_1 nqab43_19 (e := (.inr (7, [.null, .int 0, .int 0, .null])))
                have kab43_31 := atp.new k43_qn_R nqab43_19 (e := (.inr (7, [.null, .int 0, .int 0, .null])))
                have kab43_32 := atp.new k43_bf_R nqab43_19 (e := (.inr (7, [.null, .int 0, .int 0, .null])))
                have kab43_33 := atp.new k43_qa_R nqab43_19 (e := (.inr (7, [.null, .int 0, .int 0, .null])))
                have kab43_34 := atp.new k43_fq_R nqab43_19 (e := (.inr (7, [.null, .int 0, .int 0, .null])))
                have kab43_35 := FX.new k43_fx_FX nqab43_19 (e := (.inr (7, [.null, .int 0, .int 0, .null])))
                have kab43_36 := atp.new k43_qa_11_0 nqab43_19 (e := (.inr (7, [.null, .int 0, .int 0, .null])))
                have kab43_37 := atp.new k43_wqS1_R nqab43_19 (e := (.inr (7, [.null, .int 0, .int 0, .null])))
                have kab43_38 := atp.new k43_qa_11_1 nqab43_19 (e := (.inr (7, [.null, .int 0, .int 0, .null])))
                have kab43_39 := atp.new k43_qa_11_2 nqab43_19 (e := (.inr (7, [.null, .int 0, .int 0, .null])))
                have kab43_40 := atp.new k43_qa_12_0 nqab43_19 (e := (.inr (7, [.null, .int 0, .int 0, .null])))
                have kab43_41 := atp.new k43_wqS2_R nqab43_19 (e := (.inr (7, [.null, .int 0, .int 0, .null])))
                have kab43_42 := atp.new k43_qa_12_1 nqab43_19 (e := (.inr (7, [.null, .int 0, .int 0, .null])))
                have kab43_43 := atp.new k43_qa_12_2 nqab43_19 (e := (.inr (7, [.null, .int 0, .int 0, .null])))
                have kab43_44 := atp.new k43_nw_R nqab43_19 (e := (.inr (7, [.null, .int 0, .int 0, .null])))
                generalize hu f_43 qab43_19 (.inr (7, [.null, .int 0, .int 0, .null])) = fab43_20 at h tfab43_20 ofab43_20 rwqab43_19 kab43_21 kab43_22 kab43_23 kab43_24 kab43_25 kab43_26 kab43_27 kab43_28 kab43_29 kab43_30 kab43_31 kab43_32 kab43_33 kab43_34 kab43_35 kab43_36 kab43_37 kab43_38 kab43_39 kab43_40 kab43_41 kab43_42 kab43_43 kab43_44
                refine lv_dup hx hb dX10_join_114 rfl ?_
                refine lv_aload hx hb dX10_join_115 (lv_at hl 3 rfl) ?_
                refine lv_aload_n hx hb dX10_join_117 rfl (lv_at hl 1 rfl) ?_
                refine t_getfd C h tfab43_20 ha_39 (by decide) wf_1 (v := .int sxS1) kab43_38 fl_X10_125 dX10_join_118 ?_
                refine lv_aload_n hx hb dX10_join_121 rfl (lv_at hl 1 rfl) ?_
                refine t_getfd C h tfab43_20 ha_39 (by decide) wf_1 (v := .int syS1) kab43_39 fl_X10_120 dX10_join_122 ?_
                refine k_v (r_I C h hl (As := [.ref nw, .int sxS1, .int syS1]) (rest := [.ref qab43_19, .ref bo]) (c_StepSet l D G b0 fab43_20 qab43_19 nw g43_nw_R sxS1 syS1 rwqab43_19 (eqc_some kab43_44)) mk_X6_init rfl w_614 w_534 w_535 ⟨Nat.le_of_ble_eq_true rfl, Nat.le_of_ble_eq_true rfl⟩ rfl (Nat.le_of_ble_eq_true rfl) ⟨Nat.le_of_ble_eq_true rfl, Nat.le_of_ble_eq_true rfl⟩ rfl dX10_join_125) h (fun fab43_45 H locs pfab43_45 h => ?_)
                obtain ⟨qab43_46, nqab43_46, efab43_45⟩ := pfab43_45
                obtain ⟨τfab43_45, exfab43_45, tfab43_45, ofab43_45, tqqab43_19, tqqab43_46, kafab43_45, kbfab43_45, kcfab43_45, kdfab43_45, hnfab43_45, kefab43_45⟩ := mkset tfab43_20 ofab43_20 (by decide) tzqab43_19 rwqab43_19 nqab43_46 efab43_45 (fun j_ => by
                    by_cases h_ : j_ < 8
                    · exact iab43_10 j_ h_
                    · rw [hv43_0 j_, if_neg (by omega)]; exact ⟨by decide, by decide⟩) jg43_qa_11_1 jg43_qa_11_2
                have kab43_47 := atp.tr kab43_21 (hnfab43_45 _ (fun z_ => by have h_ := ha_38; rw [z_, tzqab43_19] at h_; exact absurd h_ (by decide)) (atp.nn kab43_21))
                have kab43_48 := atp.tr kab43_22 (hnfab43_45 _ (fun z_ => by have h_ := ha_38; rw [z_, tzqab43_19] at h_; exact absurd h_ (by decide)) (atp.nn kab43_22))
                have kab43_49 := atp.tr kab43_23 (hnfab43_45 _ (fun z_ => by have h_ := ha_41; rw [z_, tzqab43_19] at h_; exact absurd h_ (by decide)) (atp.nn kab43_23))
                have kab43_50 := atp.tr kab43_24 (hnfab43_45 _ (fun z_ => by have h_ := ha_41; rw [z_, tzqab43_19] at h_; exact absurd h_ (by decide)) (atp.nn kab43_24))
                have kab43_51 := atp.tr kab43_25 (hnfab43_45 _ (fun z_ => by have h_ := ha_41; rw [z_, tzqab43_19] at h_; exact absurd h_ (by decide)) (atp.nn kab43_25))
                have kab43_52 := atp.tr kab43_26 (hnfab43_45 _ (fun z_ => by have h_ := ha_41; rw [z_, tzqab43_19] at h_; exact absurd h_ (by decide)) (atp.nn kab43_26))
                have kab43_53 := atp.tr kab43_27 (hnfab43_45 _ (fun z_ => by have h_ := ha_43; rw [z_, tzqab43_19] at h_; exact absurd h_ (by decide)) (atp.nn kab43_27))
                have kab43_54 := atp.tr kab43_28 (hnfab43_45 _ (fun z_ => by have h_ := ha_43; rw [z_, tzqab43_19] at h_; exact absurd h_ (by decide)) (atp.nn kab43_28))
                have kab43_55 := atp.tr kab43_29 (hnfab43_45 _ (fun z_ => by have h_ := ha_49; rw [z_, tzqab43_19] at h_; exact absurd h_ (by decide)) (atp.nn kab43_29))
                have kab43_56 := atp.tr kab43_30 (hnfab43_45 _ (fun z_ => by have h_ := ha_49; rw [z_, tzqab43_19] at h_; exact absurd h_ (by decide)) (atp.nn kab43_30))
                have kab43_57 := atp.tr kab43_31 (hnfab43_45 _ (fun z_ => by have h_ := ha_45; rw [z_, tzqab43_19] at h_; exact absurd h_ (by decide)) (atp.nn kab43_31))
                have kab43_58 := atp.tr kab43_32 (hnfab43_45 _ (fun z_ => by have h_ := ha_44; rw [z_, tzqab43_19] at h_; exact absurd h_ (by decide)) (atp.nn kab43_32))
                have kab43_59 := atp.tr kab43_33 (hnfab43_45 _ (fun z_ => by have h_ := ha_46; rw [z_, tzqab43_19] at h_; exact absurd h_ (by decide)) (atp.nn kab43_33))
                have kab43_60 := atp.tr kab43_34 (hnfab43_45 _ (fun z_ => by have h_ := ha_42; rw [z_, tzqab43_19] at h_; exact absurd h_ (by decide)) (atp.nn kab43_34))
                have kab43_61 : FX [qa, sq, bo, qn, sn, fq] f fab43_45 := fun q_ hq_ h0_ => by have e_ := kab43_35 q_ hq_ h0_; rw [hnfab43_45 q_ (nfqab43_19 q_ hq_ h0_) (by rw [e_]; exact h0_), e_]
                have kab43_62 := atp.tr kab43_36 (hnfab43_45 _ (fun z_ => by have h_ := ha_39; rw [z_, tzqab43_19] at h_; exact absurd h_ (by decide)) (atp.nn kab43_36))
                have kab43_63 := atp.tr kab43_37 (hnfab43_45 _ (fun z_ => by have h_ := ha_47; rw [z_, tzqab43_19] at h_; exact absurd h_ (by decide)) (atp.nn kab43_37))
                have kab43_64 := atp.tr kab43_38 (hnfab43_45 _ (fun z_ => by have h_ := ha_39; rw [z_, tzqab43_19] at h_; exact absurd h_ (by decide)) (atp.nn kab43_38))
                have kab43_65 := atp.tr kab43_39 (hnfab43_45 _ (fun z_ => by have h_ := ha_39; rw [z_, tzqab43_19] at h_; exact absurd h_ (by decide)) (atp.nn kab43_39))
                have kab43_66 := atp.tr kab43_40 (hnfab43_45 _ (fun z_ => by have h_ := ha_40; rw [z_, tzqab43_19] at h_; exact absurd h_ (by decide)) (atp.nn kab43_40))
                have kab43_67 := atp.tr kab43_41 (hnfab43_45 _ (fun z_ => by have h_ := ha_48; rw [z_, tzqab43_19] at h_; exact absurd h_ (by decide)) (atp.nn kab43_41))
                have kab43_68 := atp.tr kab43_42 (hnfab43_45 _ (fun z_ => by have h_ := ha_40; rw [z_, tzqab43_19] at h_; exact absurd h_ (by decide)) (atp.nn kab43_42))
                have kab43_69 := atp.tr kab43_43 (hnfab43_45 _ (fun z_ => by have h_ := ha_40; rw [z_, tzqab43_19] at h_; exact absurd h_ (by decide)) (atp.nn kab43_43))
                have kab43_70 := atp.tr kab43_44 (hnfab43_45 _ (fun z_ => by have h_ := tqnw; rw [z_, tzqab43_19] at h_; exact absurd h_ (by decide)) (atp.nn kab43_44))
                have Ofab43_45 : Fr [0, 4, 12, 15, 18, 50, 54, 12001, 12006, 15002, 18002] τ f fab43_45 := Fr.tr Ofa_14 (Fr.cv xfa_14 ofab43_45 (by decide) (fun _ h_ => h_)) (fun _ h_ => h_) (fun _ h_ => h_)
                have xfab43_45 : Ex τ τfab43_45 := Ex.tr xfa_14 exfab43_45
                have hab43_71 : τfab43_45 bo = 12 := Ex.at exfab43_45 ha_41 (by decide)
                have hab43_72 : τfab43_45 u0 = 10 := Ex.at exfab43_45 ha_38 (by decide)
                have hab43_73 : τfab43_45 qa_11 = 1 := Ex.at exfab43_45 ha_39 (by decide)
                have hab43_74 : τfab43_45 qa_12 = 1 := Ex.at exfab43_45 ha_40 (by decide)
                have hab43_75 : τfab43_45 nw = 54 := Ex.at exfab43_45 tqnw (by decide)
                have hab43_76 : τfab43_45 fq = 50 := Ex.at exfab43_45 ha_42 (by decide)
                have hab43_77 : τfab43_45 sn = 15 := Ex.at exfab43_45 ha_43 (by decide)
                have hab43_78 : τfab43_45 bf = 17 := Ex.at exfab43_45 ha_44 (by decide)
                have hab43_79 : τfab43_45 qn = 4 := Ex.at exfab43_45 ha_45 (by decide)
                have hab43_80 : τfab43_45 qa = 4 := Ex.at exfab43_45 ha_46 (by decide)
                have hab43_81 : τfab43_45 wqS1 = 2 := Ex.at exfab43_45 ha_47 (by decide)
                have hab43_82 : τfab43_45 wqS2 = 2 := Ex.at exfab43_45 ha_48 (by decide)
                have hab43_83 : τfab43_45 sq = 18 := Ex.at exfab43_45 ha_49 (by decide)
                have ofab43_45z := Fr.rf [0, 4, 12, 15, 18, 50, 54, 12001, 12006, 15002, 18002] τfab43_45 fab43_45
                obtain ⟨_, rab43_84⟩ := t_rec tfab43_45 hab43_71 (by decide) wf_12
                refine k_i (r_V C h hl (As := [.ref qab43_19]) (rest := []) (s_X0_addX l D G b0 τfab43_45 fab43_45 tfab43_45 bo hab43_71 qab43_19 tqqab43_19 sq hab43_83 ac jg43_bo_0 kab43_49 nx jg43_bo_5 kab43_50 sn hab43_77 kab43_51 bf hab43_78 kab43_52 qn hab43_79 kab43_53 sz jg43_sn_1 kab43_54 qa hab43_80 kab43_55 rn kab43_57 rf kab43_58 ra kab43_59 esq hab (by omega)) rab43_84 (Cn := RX0) (T := TX0) (N := 6) rfl rfl mk_X0_add w_576 w_577 w_578 w_579 ⟨Nat.le_of_ble_eq_true rfl, Nat.le_of_ble_eq_true rfl⟩ rfl (Nat.le_of_ble_eq_true rfl) ⟨Nat.le_of_ble_eq_true rfl, Nat.le_of_ble_eq_true rfl⟩ rfl dX10_join_128) h (fun rab43_85 fab43_86 H locs pab43_87 h => ?_)
                obtain ⟨irab43_85, tfab43_86, ogfab43_86, x0rab43_85, ⟨nx1_fab43_86, kpu0_5fab43_86, ipu0_5fab43_86, rpu0_5fab43_86⟩, ⟨ac1_fab43_86, kpu0_0fab43_86, ipu0_0fab43_86, rpu0_0fab43_86⟩, ⟨sza_fab43_86, kpsq_1fab43_86, ipsq_1fab43_86, rpsq_1fab43_86⟩, ⟨szn_fab43_86, kpsn_1fab43_86, ipsn_1fab43_86, rpsn_1fab43_86⟩, ⟨ra1_fab43_86, kRqafab43_86, pRqafab43_86⟩, ⟨rn1_fab43_86, kRqnfab43_86, pRqnfab43_86⟩, fxfab43_86⟩ := pab43_87
                have ofab43_86 : Fr [0, 4, 12, 15, 18, 50, 54, 12001, 12006, 15002, 18002] τfab43_45 fab43_45 fab43_86 := Fr.tr ofab43_45z ogfab43_86 (by decide) (by decide)
                have kab43_88 := atp.fr kab43_47 ogfab43_86 hab43_72 (by decide)
                have kab43_89 := atp.fr kab43_48 ogfab43_86 hab43_72 (by decide)
                have kab43_90 := atp.fk kab43_51 ogfab43_86 hab43_71 (by decide) (by decide)
                have kab43_91 := atp.fk kab43_52 ogfab43_86 hab43_71 (by decide) (by decide)
                have kab43_92 := atp.fk kab43_53 ogfab43_86 hab43_77 (by decide) (by decide)
                have kab43_93 := atp.fk kab43_55 ogfab43_86 hab43_83 (by decide) (by decide)
                have kab43_94 := atp.fr kab43_58 ogfab43_86 hab43_78 (by decide)
                have kab43_95 := atp.fr kab43_60 ogfab43_86 hab43_76 (by decide)
                have kab43_96 := FX.tr kab43_61 fxfab43_86 (by simp)
                have kab43_97 := atp.fr kab43_62 ogfab43_86 hab43_73 (by decide)
                have kab43_98 := atp.fr kab43_63 ogfab43_86 hab43_81 (by decide)
                have kab43_99 := atp.fr kab43_64 ogfab43_86 hab43_73 (by decide)
                have kab43_100 := atp.fr kab43_65 ogfab43_86 hab43_73 (by decide)
                have kab43_101 := atp.fr kab43_66 ogfab43_86 hab43_74 (by decide)
                have kab43_102 := atp.fr kab43_67 ogfab43_86 hab43_82 (by decide)
                have kab43_103 := atp.fr kab43_68 ogfab43_86 hab43_74 (by decide)
                have kab43_104 := atp.fr kab43_69 ogfab43_86 hab43_74 (by decide)
                have kab43_105 := atp.fr kab43_70 ogfab43_86 hab43_75 (by decide)
                have kab43_106 := atp.fr kafab43_45 ogfab43_86 tqqab43_19 (by decide)
                have kab43_107 := atp.fr kbfab43_45 ogfab43_86 tqqab43_46 (by decide)
                have kab43_108 := atp.fr kcfab43_45 ogfab43_86 tqqab43_19 (by decide)
                have kab43_109 := atp.fr kdfab43_45 ogfab43_86 tqqab43_19 (by decide)
                exact u_iret C h hr hQ (⟨τfab43_45, xfab43_45, (iv_w irab43_85 (by decide)), tfab43_86, (Fr.tr Ofab43_45 (Fr.cv xfab43_45 ofab43_86 (by decide) (fun _ h_ => h_)) (fun _ h_ => h_) (fun _ h_ => h_)), ⟨fun _ => (by omega), fun z_ => (z_ ⟨by omega, by omega, (jo_dig (fun k hk => by rw [hv43_0 k, if_pos (by omega)]) hwS1 hwS2 (by omega) (by omega) hb9).mp iab43_10, by omega⟩).elim⟩, ⟨nx1_fab43_86, kpu0_5fab43_86, ipu0_5fab43_86, ⟨fun _ => (by omega), fun z_ => (z_ ⟨by omega, by omega, (jo_dig (fun k hk => by rw [hv43_0 k, if_pos (by omega)]) hwS1 hwS2 (by omega) (by omega) hb9).mp iab43_10, by omega⟩).elim⟩⟩, ⟨ac1_fab43_86, kpu0_0fab43_86, ipu0_0fab43_86, ⟨fun _ => (by omega), fun z_ => (z_ ⟨by omega, by omega, (jo_dig (fun k hk => by rw [hv43_0 k, if_pos (by omega)]) hwS1 hwS2 (by omega) (by omega) hb9).mp iab43_10, by omega⟩).elim⟩⟩, ⟨szn_fab43_86, kpsn_1fab43_86, ipsn_1fab43_86, ⟨fun _ => (by omega), fun z_ => (z_ ⟨by omega, by omega, (jo_dig (fun k hk => by rw [hv43_0 k, if_pos (by omega)]) hwS1 hwS2 (by omega) (by omega) hb9).mp iab43_10, by omega⟩).elim⟩⟩, ⟨sza_fab43_86, kpsq_1fab43_86, ipsq_1fab43_86, ⟨fun _ => (by omega), fun z_ => (z_ ⟨by omega, by omega, (jo_dig (fun k hk => by rw [hv43_0 k, if_pos (by omega)]) hwS1 hwS2 (by omega) (by omega) hb9).mp iab43_10, by omega⟩).elim⟩⟩, ⟨ra1_fab43_86, kRqafab43_86, ⟨fun _ => pRqafab43_86, fun z_ => (z_ ⟨by omega, by omega, (jo_dig (fun k hk => by rw [hv43_0 k, if_pos (by omega)]) hwS1 hwS2 (by omega) (by omega) hb9).mp iab43_10, by omega⟩).elim⟩⟩, ⟨rn1_fab43_86, kRqnfab43_86, ⟨fun _ => ⟨qab43_19, ⟨tqqab43_19, qab43_46, g43_nw_R, tqqab43_46, kab43_106, kab43_107, (jo_row (fun k hk => by rw [hv43_0 k, if_pos (by omega)]) hwS1 hwS2 (by omega) (by omega)), by rw [show jo bk u1.toInt u2.toInt 8 = sxS1 from (jo_8 (by omega)).trans esxS1.symm]; exact kab43_108, by rw [show jo bk u1.toInt u2.toInt 9 = syS1 from (jo_9 (by omega)).trans esyS1.symm]; exact kab43_109⟩, pRqnfab43_86⟩, fun z_ => (z_ ⟨by omega, by omega, (jo_dig (fun k hk => by rw [hv43_0 k, if_pos (by omega)]) hwS1 hwS2 (by omega) (by omega) hb9).mp iab43_10, by omega⟩).elim⟩⟩, ⟨rq, kab43_95, (bump_no (by rw [if_neg (by omega), if_neg (fun z_ => z_ ((jo_dig (fun k hk => by rw [hv43_0 k, if_pos (by omega)]) hwS1 hwS2 (by omega) (by omega) hb9).mp iab43_10)), if_neg (by omega)]))⟩, kab43_96⟩) (Nat.le_of_ble_eq_true rfl) (Nat.le_of_ble_eq_true rfl) dX10_join_131
              · have cab43_16 : rab43_12.toInt ≠ 0 := fun z_ => cab43_15 (Int32.toInt_inj.mp z_)
                have iab43_17 : iv rab43_12 1 1 := iv_Nl cab43_16 irab43_12 (by decide)
                have iab43_18 := cnrab43_12 cab43_16
                refine lv_aload_n hx hb dX10_join_101 rfl (lv_at hl 0 rfl) ?_
                refine lv_iconst (v := 2) hx hb dX10_join_102 (by decide) ?_
                obtain ⟨_, rab43_19⟩ := t_rec t_43 ha_38 (by decide) wf_10
                refine k_i (r_V C h hl (As := [.int 2]) (rest := []) (s_X10_refuseX l D G b0 τnw f_43 t_43 u0 ha_38 2 (iv_w (iv_k (x := 2) (k := 2) rfl) (by decide)) fq ha_42 k43_u0_7 rq k43_fq_R) rab43_19 (Cn := RX10) (T := TX10) (N := 10) rfl rfl mk_X10_refuse w_519 w_521 w_8 w_522 ⟨Nat.le_of_ble_eq_true rfl, Nat.le_of_ble_eq_true rfl⟩ rfl (Nat.le_of_ble_eq_true rfl) ⟨Nat.le_of_ble_eq_true rfl, Nat.le_of_ble_eq_true rfl⟩ rfl dX10_join_103) h (fun rab43_20 fab43_21 H locs pab43_22 h => ?_)
                obtain ⟨irab43_20, tfab43_21, ogfab43_21, ⟨rq1_fab43_21, kRfqfab43_21, pRfqfab43_21⟩, fxfab43_21⟩ := pab43_22
                have ofab43_21 : Fr [0, 4, 12, 15, 18, 50, 54, 12001, 12006, 15002, 18002] τnw fa_14 fab43_21 := Fr.tr o_43 ogfab43_21 (by decide) (by decide)
                have kab43_23 := atp.fr k43_u0_1 ogfab43_21 ha_38 (by decide)
                have kab43_24 := atp.fr k43_u0_7 ogfab43_21 ha_38 (by decide)
                have kab43_25 := atp.fr k43_bo_0 ogfab43_21 ha_41 (by decide)
                have kab43_26 := atp.fr k43_bo_5 ogfab43_21 ha_41 (by decide)
                have kab43_27 := atp.fr k43_bo_1 ogfab43_21 ha_41 (by decide)
                have kab43_28 := atp.fr k43_bo_3 ogfab43_21 ha_41 (by decide)
                have kab43_29 := atp.fr k43_sn_0 ogfab43_21 ha_43 (by decide)
                have kab43_30 := atp.fr k43_sn_1 ogfab43_21 ha_43 (by decide)
                have kab43_31 := atp.fr k43_sq_0 ogfab43_21 ha_49 (by decide)
                have kab43_32 := atp.fr k43_sq_1 ogfab43_21 ha_49 (by decide)
                have kab43_33 := atp.fr k43_qn_R ogfab43_21 ha_45 (by decide)
                have kab43_34 := atp.fr k43_bf_R ogfab43_21 ha_44 (by decide)
                have kab43_35 := atp.fr k43_qa_R ogfab43_21 ha_46 (by decide)
                have kab43_36 := FX.tr k43_fx_FX fxfab43_21 (by simp)
                have kab43_37 := atp.fr k43_qa_11_0 ogfab43_21 ha_39 (by decide)
                have kab43_38 := atp.fr k43_wqS1_R ogfab43_21 ha_47 (by decide)
                have kab43_39 := atp.fr k43_qa_11_1 ogfab43_21 ha_39 (by decide)
                have kab43_40 := atp.fr k43_qa_11_2 ogfab43_21 ha_39 (by decide)
                have kab43_41 := atp.fr k43_qa_12_0 ogfab43_21 ha_40 (by decide)
                have kab43_42 := atp.fr k43_wqS2_R ogfab43_21 ha_48 (by decide)
                have kab43_43 := atp.fr k43_qa_12_1 ogfab43_21 ha_40 (by decide)
                have kab43_44 := atp.fr k43_qa_12_2 ogfab43_21 ha_40 (by decide)
                have kab43_45 := atp.fr k43_nw_R ogfab43_21 tqnw (by decide)
                exact u_iret C h hr hQ (⟨τnw, xfa_14, (iv_w irab43_20 (by decide)), tfab43_21, (Fr.tr Ofa_14 (Fr.cv xfa_14 ofab43_21 (by decide) (fun _ h_ => h_)) (fun _ h_ => h_) (fun _ h_ => h_)), ⟨fun z_ => absurd z_ (by omega), fun _ => (by omega)⟩, ⟨nx, kab43_26, jg43_bo_5, ⟨fun z_ => absurd z_ (by omega), fun _ => rfl⟩⟩, ⟨ac, kab43_25, jg43_bo_0, ⟨fun z_ => absurd z_ (by omega), fun _ => rfl⟩⟩, ⟨sz, kab43_30, jg43_sn_1, ⟨fun z_ => absurd z_ (by omega), fun _ => rfl⟩⟩, ⟨sa, kab43_32, jg43_sq_1, ⟨fun z_ => absurd z_ (by omega), fun _ => rfl⟩⟩, ⟨ra, kab43_35, ⟨fun z_ => absurd z_ (by omega), fun _ => rfl⟩⟩, ⟨rn, kab43_33, ⟨fun z_ => absurd z_ (by omega), fun _ => rfl⟩⟩, ⟨rq1_fab43_21, kRfqfab43_21, (bump_eq (c := 2) pRfqfab43_21 rfl (by decide) (by rw [if_neg (by omega), if_neg (fun z_ => z_ ((jo_dig (fun k hk => by rw [hv43_0 k, if_pos (by omega)]) hwS1 hwS2 (by omega) (by omega) hb9).mp iab43_10)), if_pos (by omega)]))⟩, kab43_36⟩) (Nat.le_of_ble_eq_true rfl) (Nat.le_of_ble_eq_true rfl) dX10_join_106
            · have cab43_8 : rab43_4.toInt = 0 := congrArg Int32.toInt cab43_7
              have iab43_9 : iv rab43_4 0 0 := iv_Q cab43_8 irab43_4 (iv_k (x := 0) (k := 0) rfl) (by decide)
              have iab43_10 := czrab43_4 cab43_8
              refine lv_aload_n hx hb dX10_join_85 rfl (lv_at hl 0 rfl) ?_
              refine lv_iconst (v := 1) hx hb dX10_join_86 (by decide) ?_
              obtain ⟨_, rab43_11⟩ := t_rec t_43 ha_38 (by decide) wf_10
              refine k_i (r_V C h hl (As := [.int 1]) (rest := []) (s_X10_refuseX l D G b0 τnw f_43 t_43 u0 ha_38 1 (iv_w (iv_k (x := 1) (k := 1) rfl) (by decide)) fq ha_42 k43_u0_7 rq k43_fq_R) rab43_11 (Cn := RX10) (T := TX10) (N := 10) rfl rfl mk_X10_refuse w_519 w_521 w_8 w_522 ⟨Nat.le_of_ble_eq_true rfl, Nat.le_of_ble_eq_true rfl⟩ rfl (Nat.le_of_ble_eq_true rfl) ⟨Nat.le_of_ble_eq_true rfl, Nat.le_of_ble_eq_true rfl⟩ rfl dX10_join_87) h (fun rab43_12 fab43_13 H locs pab43_14 h => ?_)
              obtain ⟨irab43_12, tfab43_13, ogfab43_13, ⟨rq1_fab43_13, kRfqfab43_13, pRfqfab43_13⟩, fxfab43_13⟩ := pab43_14
              have ofab43_13 : Fr [0, 4, 12, 15, 18, 50, 54, 12001, 12006, 15002, 18002] τnw fa_14 fab43_13 := Fr.tr o_43 ogfab43_13 (by decide) (by decide)
              have kab43_15 := atp.fr k43_u0_1 ogfab43_13 ha_38 (by decide)
              have kab43_16 := atp.fr k43_u0_7 ogfab43_13 ha_38 (by decide)
              have kab43_17 := atp.fr k43_bo_0 ogfab43_13 ha_41 (by decide)
              have kab43_18 := atp.fr k43_bo_5 ogfab43_13 ha_41 (by decide)
              have kab43_19 := atp.fr k43_bo_1 ogfab43_13 ha_41 (by decide)
              have kab43_20 := atp.fr k43_bo_3 ogfab43_13 ha_41 (by decide)
              have kab43_21 := atp.fr k43_sn_0 ogfab43_13 ha_43 (by decide)
              have kab43_22 := atp.fr k43_sn_1 ogfab43_13 ha_43 (by decide)
              have kab43_23 := atp.fr k43_sq_0 ogfab43_13 ha_49 (by decide)
              have kab43_24 := atp.fr k43_sq_1 ogfab43_13 ha_49 (by decide)
              have kab43_25 := atp.fr k43_qn_R ogfab43_13 ha_45 (by decide)
              have kab43_26 := atp.fr k43_bf_R ogfab43_13 ha_44 (by decide)
              have kab43_27 := atp.fr k43_qa_R ogfab43_13 ha_46 (by decide)
              have kab43_28 := FX.tr k43_fx_FX fxfab43_13 (by simp)
              have kab43_29 := atp.fr k43_qa_11_0 ogfab43_13 ha_39 (by decide)
              have kab43_30 := atp.fr k43_wqS1_R ogfab43_13 ha_47 (by decide)
              have kab43_31 := atp.fr k43_qa_11_1 ogfab43_13 ha_39 (by decide)
              have kab43_32 := atp.fr k43_qa_11_2 ogfab43_13 ha_39 (by decide)
              have kab43_33 := atp.fr k43_qa_12_0 ogfab43_13 ha_40 (by decide)
              have kab43_34 := atp.fr k43_wqS2_R ogfab43_13 ha_48 (by decide)
              have kab43_35 := atp.fr k43_qa_12_1 ogfab43_13 ha_40 (by decide)
              have kab43_36 := atp.fr k43_qa_12_2 ogfab43_13 ha_40 (by decide)
              have kab43_37 := atp.fr k43_nw_R ogfab43_13 tqnw (by decide)
              exact u_iret C h hr hQ (⟨τnw, xfa_14, (iv_w irab43_12 (by decide)), tfab43_13, (Fr.tr Ofa_14 (Fr.cv xfa_14 ofab43_13 (by decide) (fun _ h_ => h_)) (fun _ h_ => h_) (fun _ h_ => h_)), ⟨fun z_ => absurd z_ (fun z_ => iab43_10 ((jo_dig (fun k hk => by rw [hv43_0 k, if_pos (by omega)]) hwS1 hwS2 (by omega) (by omega) hb9).mpr z_.2.2.1)), fun _ => (by omega)⟩, ⟨nx, kab43_18, jg43_bo_5, ⟨fun z_ => absurd z_ (fun z_ => iab43_10 ((jo_dig (fun k hk => by rw [hv43_0 k, if_pos (by omega)]) hwS1 hwS2 (by omega) (by omega) hb9).mpr z_.2.2.1)), fun _ => rfl⟩⟩, ⟨ac, kab43_17, jg43_bo_0, ⟨fun z_ => absurd z_ (fun z_ => iab43_10 ((jo_dig (fun k hk => by rw [hv43_0 k, if_pos (by omega)]) hwS1 hwS2 (by omega) (by omega) hb9).mpr z_.2.2.1)), fun _ => rfl⟩⟩, ⟨sz, kab43_22, jg43_sn_1, ⟨fun z_ => absurd z_ (fun z_ => iab43_10 ((jo_dig (fun k hk => by rw [hv43_0 k, if_pos (by omega)]) hwS1 hwS2 (by omega) (by omega) hb9).mpr z_.2.2.1)), fun _ => rfl⟩⟩, ⟨sa, kab43_24, jg43_sq_1, ⟨fun z_ => absurd z_ (fun z_ => iab43_10 ((jo_dig (fun k hk => by rw [hv43_0 k, if_pos (by omega)]) hwS1 hwS2 (by omega) (by omega) hb9).mpr z_.2.2.1)), fun _ => rfl⟩⟩, ⟨ra, kab43_27, ⟨fun z_ => absurd z_ (fun z_ => iab43_10 ((jo_dig (fun k hk => by rw [hv43_0 k, if_pos (by omega)]) hwS1 hwS2 (by omega) (by omega) hb9).mpr z_.2.2.1)), fun _ => rfl⟩⟩, ⟨rn, kab43_25, ⟨fun z_ => absurd z_ (fun z_ => iab43_10 ((jo_dig (fun k hk => by rw [hv43_0 k, if_pos (by omega)]) hwS1 hwS2 (by omega) (by omega) hb9).mpr z_.2.2.1)), fun _ => rfl⟩⟩, ⟨rq1_fab43_13, kRfqfab43_13, (bump_eq (c := 1) pRfqfab43_13 rfl (by decide) (by rw [if_neg (by omega), if_pos (fun z_ => iab43_10 ((jo_dig (fun k hk => by rw [hv43_0 k, if_pos (by omega)]) hwS1 hwS2 (by omega) (by omega) hb9).mpr z_))]))⟩, kab43_28⟩) (Nat.le_of_ble_eq_true rfl) (Nat.le_of_ble_eq_true rfl) dX10_join_90
          · have cab43_2 : v43_6.toInt < 8 := Int32.lt_iff_toInt_lt.mp (iv_nle cab43_1)
            have iab43_3 : iv v43_6 0 7 := iv_Ll cab43_2 iv43_6 (iv_k (x := 8) (k := 8) rfl) (by decide)
            refine lv_aload hx hb dX10_join_50 (lv_at hl 3 rfl) ?_
            refine lv_iload hx hb dX10_join_52 (lv_at hl 4 rfl) ?_
            refine lv_aload_n hx hb dX10_join_54 rfl (lv_at hl 1 rfl) ?_
            refine t_getfd C h t_43 ha_39 (by decide) wf_1 (v := .ref wqS1) k43_qa_11_0 fl_X10_135 dX10_join_55 ?_
            refine lv_iload hx hb dX10_join_58 (lv_at hl 4 rfl) ?_
            refine e_iald C h t_43 ha_47 (by decide) wf_2 k43_wqS1_R (iv_in iab43_3 (by decide)) dX10_join_60 (fun zab43_4 ezab43_4 izab43_4 => ?_)
            have mzab43_4 := congrArg Int32.toInt ezab43_4
            refine lv_aload hx hb dX10_join_61 (lv_at hl 2 rfl) ?_
            refine t_getfd C h t_43 ha_40 (by decide) wf_1 (v := .ref wqS2) k43_qa_12_0 fl_X10_135 dX10_join_63 ?_
            refine lv_iload hx hb dX10_join_66 (lv_at hl 4 rfl) ?_
            refine e_iald C h t_43 ha_48 (by decide) wf_2 k43_wqS2_R (iv_in iab43_3 (by decide)) dX10_join_68 (fun zab43_5 ezab43_5 izab43_5 => ?_)
            have mzab43_5 := congrArg Int32.toInt ezab43_5
            refine i_add hx hb dX10_join_69 izab43_4 izab43_5 (lo := 0) (hi := 18) (by decide) (fun zab43_6 ezab43_6 mzab43_6 izab43_6 => ?_)
            refine e_iast C h t_43 o_43 tqnw (by decide) (by decide) wf_54 fw_54 k43_nw_R (iv_in iab43_3 (by decide)) (iv_w izab43_6 (by decide)) dX10_join_70 (fun Rab43_9 fab43_7 erRab43_9 H locs h tfab43_7 ofab43_7 hq hn_ kab43_8 => ?_)
            have kab43_10 := atp.tg k43_u0_1 hq ha_38 (by decide)
            have kab43_11 := atp.tg k43_u0_7 hq ha_38 (by decide)
            have kab43_12 := atp.tg k43_bo_0 hq ha_41 (by decide)
            have kab43_13 := atp.tg k43_bo_5 hq ha_41 (by decide)
            have kab43_14 := atp.tg k43_bo_1 hq ha_41 (by decide)
            have kab43_15 := atp.tg k43_bo_3 hq ha_41 (by decide)
            have kab43_16 := atp.tg k43_sn_0 hq ha_43 (by decide)
            have kab43_17 := atp.tg k43_sn_1 hq ha_43 (by decide)
            have kab43_18 := atp.tg k43_sq_0 hq ha_49 (by decide)
            have kab43_19 := atp.tg k43_sq_1 hq ha_49 (by decide)
            have kab43_20 := atp.tg k43_qn_R hq ha_45 (by decide)
            have kab43_21 := atp.tg k43_bf_R hq ha_44 (by decide)
            have kab43_22 := atp.tg k43_qa_R hq ha_46 (by decide)
            have kab43_23 := atp.tg k43_fq_R hq ha_42 (by decide)
            have kab43_24 := FX.upn k43_fx_FX hn_ nfnw
            have kab43_25 := atp.tg k43_qa_11_0 hq ha_39 (by decide)
            have kab43_26 := atp.tg k43_wqS1_R hq ha_47 (by decide)
            have kab43_27 := atp.tg k43_qa_11_1 hq ha_39 (by decide)
            have kab43_28 := atp.tg k43_qa_11_2 hq ha_39 (by decide)
            have kab43_29 := atp.tg k43_qa_12_0 hq ha_40 (by decide)
            have kab43_30 := atp.tg k43_wqS2_R hq ha_48 (by decide)
            have kab43_31 := atp.tg k43_qa_12_1 hq ha_40 (by decide)
            have kab43_32 := atp.tg k43_qa_12_2 hq ha_40 (by decide)
            refine i_inc hx hb dX10_join_71 hl (k := 4) rfl iab43_3 rfl (lo := 1) (hi := 8) (by decide) (by decide) (lv' := fun v => [(6, .int v), (0, .ref u0), (3, .ref qa_11), (4, .ref qa_12), (5, .ref nw)]) (fun _ => rfl) (fun zab43_34 ls ezab43_34 mzab43_34 izab43_34 hl => ?_)
            refine lv_goto (tgt := 43) hx hb dX10_join_74 (by decide) ?_
            exact ih43 ls fab43_7 H locs zab43_34 Rab43_9 (show 8 - zab43_34.toInt < _ by omega) (lv_cons hl 1 rfl (lv_cons hl 2 rfl (lv_cons hl 3 rfl (lv_cons hl 4 rfl (lv_cons hl 0 rfl (lv_nil hl)))))) h tfab43_7 ofab43_7 (iv_w izab43_34 (by decide)) jg43_bo_0 jg43_bo_5 jg43_sn_1 jg43_sq_1 jg43_qa_11_1 jg43_qa_11_2 jg43_qa_12_1 jg43_qa_12_2 kab43_10 kab43_11 kab43_12 kab43_13 kab43_14 kab43_15 kab43_16 kab43_17 kab43_18 kab43_19 kab43_20 kab43_21 kab43_22 kab43_23 kab43_24 kab43_25 kab43_26 kab43_27 kab43_28 kab43_29 kab43_30 kab43_31 kab43_32 kab43_8 (show ∀ k : Nat, Rab43_9 k = if (k : Int) < zab43_34.toInt then wwS1 k + wwS2 k else 0 from (by
                intro k; rw [erRab43_9]; by_cases q_ : k = v43_6.toInt.toNat
                · rw [upd_at q_, ezab43_6, ezab43_4, ezab43_5, ← q_]; (repeat' split) <;> first | rfl | (exfalso; omega) | (exact congrArg _ (by omega)) | (exact congr (congrArg HAdd.hAdd (congrArg rb (by omega))) (congrArg rb (by omega)))
                · rw [upd_off q_, hv43_0 k]; (repeat' split) <;> first | rfl | (exfalso; omega) | (exact congrArg _ (by omega))))
      exact L43 9 ls fa_14 H locs 0 ((fun _ => (0 : Int32))) (by decide) (lv_cons hl 4 rfl (lv_cons hl 3 rfl (lv_cons hl 2 rfl (lv_cons hl 1 rfl (lv_cons hl 0 rfl (lv_nil hl)))))) h tfa_14 ofa_14z ⟨by decide, by decide⟩ hac hnx hsz hsa isxS1 isyS1 isxS2 isyS2 ka_15 ka_16 ka_17 ka_18 ka_19 ka_20 ka_21 ka_22 ka_23 ka_24 ka_25 ka_26 ka_27 ka_28 ka_29 ka_30 ka_31 ka_32 ka_33 ka_34 ka_35 ka_36 ka_37 kRnw (show ∀ k : Nat, (fun _ => (0 : Int32)) k = if (k : Int) < 0 then wwS1 k + wwS2 k else 0 from (by
          intro k; (repeat' split) <;> first | rfl | (exfalso; omega) | (exact congrArg _ (by omega))))
