theorem dX10_fault_0 : decode cX10_fault 0 = .ok (.aload_n 0, 1) := by decide +kernel
theorem dX10_fault_1 : decode cX10_fault 1 = .ok (.getfield 12, 3) := by decide +kernel
theorem dX10_fault_4 : decode cX10_fault 4 = .ok (.invokevirtual 91, 3) := by decide +kernel
theorem w_432 : Cond.methodLink "QuarterWalks" 91 yX7_read ∈ wAll := wI2 97 (by decide +kernel) (by decide +kernel)
theorem w_434 : Cond.selects yX7_read.cls yX7_read yX7_read ∈ wAll := wI2 99 (by decide +kernel) (by decide +kernel)
theorem mk_X7_read : mk yX7_read 0 := ⟨by decide +kernel, w_97⟩
theorem w_433 : Cond.instanceMethod yX7_read ∈ wAll := wI2 98 (by decide +kernel) (by decide +kernel)
theorem w_435 : Cond.code yX7_read cX7_read 3 (some .int) ∈ wAll := wI2 100 (by decide +kernel) (by decide +kernel)
theorem dX10_fault_7 : decode cX10_fault 7 = .ok (.ireturn, 1) := by decide +kernel
theorem dX7_told_0 : decode cX7_told 0 = .ok (.new 22, 3) := by decide +kernel
theorem w_531 : Cond.classLink "QuarterWalks$Tape" 22 "QuarterWalks$StepSet" ∈ wAll := wI2 196 (by decide +kernel) (by decide +kernel)
theorem nw_X7_22 : nw RX7 22 7 4 [.null, .int 0, .int 0, .null] := ⟨RX6, TX6, tyX6, rfl, inA_X6, tyX6_ok, w_531, w_532, w_115, by decide +kernel⟩
theorem dX7_told_3 : decode cX7_told 3 = .ok (.dup, 1) := by decide +kernel
theorem dX7_told_4 : decode cX7_told 4 = .ok (.aload_n 0, 1) := by decide +kernel
theorem dX7_told_5 : decode cX7_told 5 = .ok (.getfield 15, 3) := by decide +kernel
theorem dX7_told_8 : decode cX7_told 8 = .ok (.aload_n 0, 1) := by decide +kernel
theorem dX7_told_9 : decode cX7_told 9 = .ok (.getfield 24, 3) := by decide +kernel
theorem fl_X7_24 : fl RX7 24 8 3 := ⟨RX7, TX7, 7, rfl, inA_X7, by decide, w_142⟩
theorem dX7_told_12 : decode cX7_told 12 = .ok (.aload_n 0, 1) := by decide +kernel
theorem dX7_told_13 : decode cX7_told 13 = .ok (.getfield 27, 3) := by decide +kernel
theorem fl_X7_27 : fl RX7 27 8 4 := ⟨RX7, TX7, 7, rfl, inA_X7, by decide, w_143⟩
theorem dX7_told_16 : decode cX7_told 16 = .ok (.invokespecial 30, 3) := by decide +kernel
theorem w_533 : Cond.methodLink "QuarterWalks$Tape" 30 yX6_init ∈ wAll := wI2 198 (by decide +kernel) (by decide +kernel)
theorem dX7_told_19 : decode cX7_told 19 = .ok (.areturn, 1) := by decide +kernel
theorem dX10_tell_0 : decode cX10_tell 0 = .ok (.aload_n 0, 1) := by decide +kernel
theorem dX10_tell_1 : decode cX10_tell 1 = .ok (.getfield 12, 3) := by decide +kernel
theorem dX10_tell_4 : decode cX10_tell 4 = .ok (.invokevirtual 91, 3) := by decide +kernel
theorem dX10_tell_7 : decode cX10_tell 7 = .ok (.iconst (-1), 1) := by decide +kernel
theorem dX10_tell_8 : decode cX10_tell 8 = .ok (.if_icmp .eq 9, 3) := by decide +kernel
theorem dX10_tell_17 : decode cX10_tell 17 = .ok (.aload_n 0, 1) := by decide +kernel
theorem dX10_tell_18 : decode cX10_tell 18 = .ok (.getfield 19, 3) := by decide +kernel
theorem dX10_tell_21 : decode cX10_tell 21 = .ok (.invokevirtual 98, 3) := by decide +kernel
theorem dX10_tell_24 : decode cX10_tell 24 = .ok (.ifCond .eq 9, 3) := by decide +kernel
theorem dX10_tell_33 : decode cX10_tell 33 = .ok (.aload_n 0, 1) := by decide +kernel
theorem dX10_tell_34 : decode cX10_tell 34 = .ok (.getfield 12, 3) := by decide +kernel
theorem dX10_tell_37 : decode cX10_tell 37 = .ok (.iconst 0, 1) := by decide +kernel
theorem dX10_tell_38 : decode cX10_tell 38 = .ok (.putfield 79, 3) := by decide +kernel
theorem dX10_tell_41 : decode cX10_tell 41 = .ok (.aload_n 0, 1) := by decide +kernel
theorem dX10_tell_42 : decode cX10_tell 42 = .ok (.getfield 19, 3) := by decide +kernel
theorem dX10_tell_45 : decode cX10_tell 45 = .ok (.aload_n 0, 1) := by decide +kernel
theorem dX10_tell_46 : decode cX10_tell 46 = .ok (.getfield 12, 3) := by decide +kernel
theorem dX10_tell_49 : decode cX10_tell 49 = .ok (.invokevirtual 102, 3) := by decide +kernel
theorem w_527 : Cond.methodLink "QuarterWalks" 102 yX7_told ∈ wAll := wI2 192 (by decide +kernel) (by decide +kernel)
theorem w_529 : Cond.selects yX7_told.cls yX7_told yX7_told ∈ wAll := wI2 194 (by decide +kernel) (by decide +kernel)
theorem mk_X7_told : mk yX7_told 0 := ⟨by decide +kernel, w_97⟩
theorem w_528 : Cond.instanceMethod yX7_told ∈ wAll := wI2 193 (by decide +kernel) (by decide +kernel)
theorem w_530 : Cond.code yX7_told cX7_told 1 (some (.object "QuarterWalks$StepSet")) ∈ wAll := wI2 195 (by decide +kernel) (by decide +kernel)
theorem dX10_tell_52 : decode cX10_tell 52 = .ok (.invokevirtual 106, 3) := by decide +kernel
theorem dX10_tell_27 : decode cX10_tell 27 = .ok (.aload_n 0, 1) := by decide +kernel
theorem dX10_tell_28 : decode cX10_tell 28 = .ok (.iconst 2, 1) := by decide +kernel
theorem dX10_tell_29 : decode cX10_tell 29 = .ok (.invokevirtual 95, 3) := by decide +kernel
theorem dX10_tell_11 : decode cX10_tell 11 = .ok (.aload_n 0, 1) := by decide +kernel
theorem dX10_tell_12 : decode cX10_tell 12 = .ok (.iconst 0, 1) := by decide +kernel
theorem dX10_tell_13 : decode cX10_tell 13 = .ok (.invokevirtual 95, 3) := by decide +kernel
theorem dX10_tell_55 : decode cX10_tell 55 = .ok (.ireturn, 1) := by decide +kernel
theorem dX10_tell_32 : decode cX10_tell 32 = .ok (.ireturn, 1) := by decide +kernel
theorem dX10_tell_16 : decode cX10_tell 16 = .ok (.ireturn, 1) := by decide +kernel
abbrev rm_s_X10_faultX : Room := { frames := 8, cells := 0, slots := 0, locals := 176 }
set_option maxRecDepth 100000 in
set_option maxHeartbeats 4000000 in
theorem s_X10_faultX (l : Launch) (D : va_G) (G : Nat → Nat) (b0 : Nat) (τ : Nat → Nat) (f : hM) (t : TI G 9 τ f) (u0 : Nat) (hu0 : τ u0 = 10) (ta : Nat) (hta : τ ta = 11) (k_u0_0 : atp f u0 (fd 0 (.ref ta))) (ln : Int32) (hln : iv ln 0 200) (k_ta_0 : atp f ta (fd 0 (.int ln))) (tq : Nat) (htq : τ tq = 13) (k_ta_1 : atp f ta (fd 1 (.ref tq))) (wq : Nat) (hwq : τ wq = 14) (k_ta_2 : atp f ta (fd 2 (.ref wq))) (sx : Int32) (hsx : iv sx 0 9) (k_ta_3 : atp f ta (fd 3 (.int sx))) (sy : Int32) (hsy : iv sy 0 9) (k_ta_4 : atp f ta (fd 4 (.int sy))) (bh : Int32) (hbh : iv bh 0 6) (k_ta_5 : atp f ta (fd 5 (.int bh))) (la : Int32) (hla : iv la 0 7) (k_ta_6 : atp f ta (fd 6 (.int la))) (rt : Nat → Int32) (hRtq : atp f tq (eqc (.inl (G 1, 200, .inl rt)))) (ww : Nat → Int32) (hRwq : atp f wq (eqc (.inl (G 1, 8, .inl ww)))) : mI l yX10_fault cX10_fault 1 (.int) rm_s_X10_faultX D G b0 f [.ref u0] (fun r f1 => iv r (-1) 200 ∧ TI G 9 τ f1 ∧ Fr [11, 14, 11004, 11005, 11006, 11007] τ f f1 ∧ (r.toInt = (run (tb rt) ln.toInt.toNat 0 0 (fun _ => 0) 0 0 0).1) ∧ FX [ta, wq] f f1) := by
  refine met2 (own := RX10) (by decide) rfl (Nat.le_of_ble_eq_true rfl) ?_
  intro p e s m args below meth c ls Q hQ C hr hini hl h
  have hl : lv_has ls 1 [(0, .ref u0)] := hl
  obtain ⟨hx, hb, hml, hown, hts, hE0, hlk⟩ := id C
  have o := Fr.rf [11, 14, 11004, 11005, 11006, 11007] τ f
  have hfx := FX.rf [ta, wq] f
  refine lv_aload_n hx hb dX10_fault_0 rfl (lv_at hl 0 rfl) ?_
  refine t_getfd C h t hu0 (by decide) wf_10 (v := .ref ta) k_u0_0 fl_X10_12 dX10_fault_1 ?_
  obtain ⟨_, r1⟩ := t_rec t hta (by decide) wf_11
  refine k_i (r_V C h hl (As := []) (rest := []) (s_X7_readX l D G b0 τ f t ta hta ln hln k_ta_0 tq htq k_ta_1 wq hwq k_ta_2 sx hsx k_ta_3 sy hsy k_ta_4 bh hbh k_ta_5 la hla k_ta_6 rt hRtq ww hRwq) r1 (Cn := RX7) (T := TX7) (N := 7) rfl rfl mk_X7_read w_432 w_433 w_434 w_435 ⟨Nat.le_of_ble_eq_true rfl, Nat.le_of_ble_eq_true rfl⟩ rfl (Nat.le_of_ble_eq_true rfl) ⟨Nat.le_of_ble_eq_true rfl, Nat.le_of_ble_eq_true rfl⟩ rfl dX10_fault_4) h (fun r2 f3 H locs p4 h => ?_)
  obtain ⟨ir2, tf3, ogf3, ⟨sx1_f3, sy1_f3, bh1_f3, la1_f3, ww1_f3, ⟨kpu0_3f3, ipu0_3f3⟩, ⟨kpu0_4f3, ipu0_4f3⟩, ⟨kpu0_5f3, ipu0_5f3⟩, ⟨kpu0_6f3, ipu0_6f3⟩, kRwqf3, jtf3⟩, fxf3⟩ := p4
  have of3 : Fr [11, 14, 11004, 11005, 11006, 11007] τ f f3 := Fr.tr o ogf3 (by decide) (by decide)
  have k5 := atp.fr k_u0_0 ogf3 hu0 (by decide)
  have k6 := atp.fk k_ta_0 ogf3 hta (by decide) (by decide)
  have k7 := atp.fk k_ta_1 ogf3 hta (by decide) (by decide)
  have k8 := atp.fk k_ta_2 ogf3 hta (by decide) (by decide)
  have k9 := atp.fr hRtq ogf3 htq (by decide)
  have k10 := FX.tr hfx fxf3 (by simp)
  exact u_iret C h hr hQ (⟨ir2, tf3, of3, jtf3.1, k10⟩) (Nat.le_of_ble_eq_true rfl) (Nat.le_of_ble_eq_true rfl) dX10_fault_7
abbrev rm_s_X7_toldX : Room := { frames := 3, cells := 2, slots := 12, locals := 63 }
set_option maxRecDepth 100000 in
set_option maxHeartbeats 4000000 in
theorem s_X7_toldX (l : Launch) (D : va_G) (G : Nat → Nat) (b0 : Nat) (τ : Nat → Nat) (f : hM) (t : TI G 9 τ f) (u0 : Nat) (hu0 : τ u0 = 11) (wq : Nat) (hwq : τ wq = 14) (k_u0_2 : atp f u0 (fd 2 (.ref wq))) (sx : Int32) (hsx : iv sx 0 9) (k_u0_3 : atp f u0 (fd 3 (.int sx))) (sy : Int32) (hsy : iv sy 0 9) (k_u0_4 : atp f u0 (fd 4 (.int sy))) (ww : Nat → Int32) (hRwq : atp f wq (eqc (.inl (G 1, 8, .inl ww)))) : mQ l yX7_told cX7_told 1 (.object "QuarterWalks$StepSet") rm_s_X7_toldX D G b0 f [.ref u0] (fun r f1 => (∃ τ1, Ex τ τ1 ∧ (∃ z, r = some z ∧ τ1 z = 1) ∧ TI G 9 τ1 f1 ∧ Fr [0] τ f f1 ∧ (∃ z, r = some z ∧ SO G τ1 f1 z (tw ww sx sy)) ∧ FX [] f f1)) := by
  refine met2 (own := RX7) (by decide) rfl (Nat.le_of_ble_eq_true rfl) ?_
  intro p e s m args below meth c ls Q hQ C hr hini hl h
  have hl : lv_has ls 1 [(0, .ref u0)] := hl
  obtain ⟨hx, hb, hml, hown, hts, hE0, hlk⟩ := id C
  have o := Fr.rf [0] τ f
  have hfx := FX.rf [] f
  refine q_new C h nw_X7_22 (Nat.le_of_ble_eq_true rfl) (Nat.le_of_ble_eq_true rfl) dX7_told_0 (fun qa_1 H nqa_1 h => ?_)
  have tzqa_1 := TI.zero t nqa_1
  have tfa_2 := TI.raw (e := (.inr (7, [.null, .int 0, .int 0, .null]))) t tzqa_1
  have ofa_2 : Fr [0] τ f (hu f qa_1 (.inr (7, [.null, .int 0, .int 0, .null]))) := Fr.new o nqa_1 tzqa_1 (by decide)
  have nfqa_1 := nfr hfx nqa_1
  have rwqa_1 : hu f qa_1 (.inr (7, [.null, .int 0, .int 0, .null])) qa_1 = some (.inr (7, [.null, .int 0, .int 0, .null])) := hu_self _ _ _
  have ka_3 := atp.new k_u0_2 nqa_1 (e := (.inr (7, [.null, .int 0, .int 0, .null])))
  have ka_4 := atp.new k_u0_3 nqa_1 (e := (.inr (7, [.null, .int 0, .int 0, .null])))
  have ka_5 := atp.new k_u0_4 nqa_1 (e := (.inr (7, [.null, .int 0, .int 0, .null])))
  have ka_6 := atp.new hRwq nqa_1 (e := (.inr (7, [.null, .int 0, .int 0, .null])))
  have ka_7 := FX.new hfx nqa_1 (e := (.inr (7, [.null, .int 0, .int 0, .null])))
  generalize hu f qa_1 (.inr (7, [.null, .int 0, .int 0, .null])) = fa_2 at h tfa_2 ofa_2 rwqa_1 ka_3 ka_4 ka_5 ka_6 ka_7
  refine lv_dup hx hb dX7_told_3 rfl ?_
  refine lv_aload_n hx hb dX7_told_4 rfl (lv_at hl 0 rfl) ?_
  refine t_getfd C h tfa_2 hu0 (by decide) wf_11 (v := .ref wq) ka_3 fl_X7_15 dX7_told_5 ?_
  refine lv_aload_n hx hb dX7_told_8 rfl (lv_at hl 0 rfl) ?_
  refine t_getfd C h tfa_2 hu0 (by decide) wf_11 (v := .int sx) ka_4 fl_X7_24 dX7_told_9 ?_
  refine lv_aload_n hx hb dX7_told_12 rfl (lv_at hl 0 rfl) ?_
  refine t_getfd C h tfa_2 hu0 (by decide) wf_11 (v := .int sy) ka_5 fl_X7_27 dX7_told_13 ?_
  refine k_v (r_I C h hl (As := [.ref wq, .int sx, .int sy]) (rest := [.ref qa_1]) (c_StepSet l D G b0 fa_2 qa_1 wq ww sx sy rwqa_1 (eqc_some ka_6)) mk_X6_init rfl w_533 w_534 w_535 ⟨Nat.le_of_ble_eq_true rfl, Nat.le_of_ble_eq_true rfl⟩ rfl (Nat.le_of_ble_eq_true rfl) ⟨Nat.le_of_ble_eq_true rfl, Nat.le_of_ble_eq_true rfl⟩ rfl dX7_told_16) h (fun fa_8 H locs pfa_8 h => ?_)
  obtain ⟨qa_9, nqa_9, efa_8⟩ := pfa_8
  obtain ⟨τfa_8, exfa_8, tfa_8, ofa_8, tqqa_1, tqqa_9, kafa_8, kbfa_8, kcfa_8, kdfa_8, hnfa_8, kefa_8⟩ := mkset tfa_2 ofa_2 (by decide) tzqa_1 rwqa_1 nqa_9 efa_8 (row_iv14 tfa_2 hwq ka_6) hsx hsy
  have ka_10 := atp.tr ka_3 (hnfa_8 _ (fun z_ => by have h_ := hu0; rw [z_, tzqa_1] at h_; exact absurd h_ (by decide)) (atp.nn ka_3))
  have ka_11 := atp.tr ka_4 (hnfa_8 _ (fun z_ => by have h_ := hu0; rw [z_, tzqa_1] at h_; exact absurd h_ (by decide)) (atp.nn ka_4))
  have ka_12 := atp.tr ka_5 (hnfa_8 _ (fun z_ => by have h_ := hu0; rw [z_, tzqa_1] at h_; exact absurd h_ (by decide)) (atp.nn ka_5))
  have ka_13 := atp.tr ka_6 (hnfa_8 _ (fun z_ => by have h_ := hwq; rw [z_, tzqa_1] at h_; exact absurd h_ (by decide)) (atp.nn ka_6))
  have ka_14 : FX [] f fa_8 := fun q_ hq_ h0_ => by have e_ := ka_7 q_ hq_ h0_; rw [hnfa_8 q_ (nfqa_1 q_ hq_ h0_) (by rw [e_]; exact h0_), e_]
  have Ofa_8 : Fr [0] τ f fa_8 := ofa_8
  have xfa_8 : Ex τ τfa_8 := exfa_8
  have ha_15 : τfa_8 u0 = 11 := Ex.at exfa_8 hu0 (by decide)
  have ha_16 : τfa_8 wq = 14 := Ex.at exfa_8 hwq (by decide)
  have ofa_8z := Fr.rf [0] τfa_8 fa_8
  exact u_aret C h hr (Or.inl ⟨_, rfl⟩) hQ (v := some qa_1) (⟨τfa_8, xfa_8, ⟨_, rfl, tqqa_1⟩, tfa_8, (Fr.tr Ofa_8 (Fr.cv xfa_8 ofa_8z (by decide) (fun _ h_ => h_)) (fun _ h_ => h_) (fun _ h_ => h_)), ⟨_, rfl, tqqa_1, qa_9, ww, tqqa_9, kafa_8, kbfa_8, fun k hk => by unfold tw; rw [if_pos hk], kcfa_8, kdfa_8⟩, ka_14⟩) (Nat.le_of_ble_eq_true rfl) (Nat.le_of_ble_eq_true rfl) rfl dX7_told_19
abbrev rm_s_X10_tellX : Room := { frames := 8, cells := 2, slots := 12, locals := 176 }
set_option maxRecDepth 100000 in
set_option maxHeartbeats 4000000 in
theorem s_X10_tellX (l : Launch) (D : va_G) (G : Nat → Nat) (b0 : Nat) (τ : Nat → Nat) (f : hM) (t : TI G 9 τ f) (u0 : Nat) (hu0 : τ u0 = 10) (sq : Nat) (hsq : τ sq = 18) (bo : Nat) (hbo : τ bo = 12) (k_u0_1 : atp f u0 (fd 1 (.ref bo))) (fq : Nat) (hfq : τ fq = 50) (k_u0_7 : atp f u0 (fd 7 (.ref fq))) (ac : Int32) (hac : iv ac 0 12) (k_bo_0 : atp f bo (fd 0 (.int ac))) (nx : Int32) (hnx : iv nx 0 11) (k_bo_5 : atp f bo (fd 5 (.int nx))) (sn : Nat) (hsn : τ sn = 15) (k_bo_1 : atp f bo (fd 1 (.ref sn))) (bf : Nat) (hbf : τ bf = 17) (k_bo_3 : atp f bo (fd 3 (.ref bf))) (qn : Nat) (hqn : τ qn = 4) (k_sn_0 : atp f sn (fd 0 (.ref qn))) (sz : Int32) (hsz : iv sz 0 8) (k_sn_1 : atp f sn (fd 1 (.int sz))) (qa : Nat) (hqa : τ qa = 4) (k_sq_0 : atp f sq (fd 0 (.ref qa))) (sa : Int32) (hsa : iv sa 0 8) (k_sq_1 : atp f sq (fd 1 (.int sa))) (ta : Nat) (hta : τ ta = 11) (k_u0_0 : atp f u0 (fd 0 (.ref ta))) (ln : Int32) (hln : iv ln 0 200) (k_ta_0 : atp f ta (fd 0 (.int ln))) (tq : Nat) (htq : τ tq = 13) (k_ta_1 : atp f ta (fd 1 (.ref tq))) (wq : Nat) (hwq : τ wq = 14) (k_ta_2 : atp f ta (fd 2 (.ref wq))) (sx : Int32) (hsx : iv sx 0 9) (k_ta_3 : atp f ta (fd 3 (.int sx))) (sy : Int32) (hsy : iv sy 0 9) (k_ta_4 : atp f ta (fd 4 (.int sy))) (bh : Int32) (hbh : iv bh 0 6) (k_ta_5 : atp f ta (fd 5 (.int bh))) (la : Int32) (hla : iv la 0 7) (k_ta_6 : atp f ta (fd 6 (.int la))) (rn : Nat → Option Nat) (hRqn : atp f qn (eqr G 4 8 rn)) (rf : Nat → Option Nat) (hRbf : atp f bf (eqr G 3 12 rf)) (ra : Nat → Option Nat) (hRqa : atp f qa (eqr G 4 8 ra)) (rq : Nat → Int32) (hRfq : atp f fq (eqc (.inl (G 1, 4, .inl rq)))) (rt : Nat → Int32) (hRtq : atp f tq (eqc (.inl (G 1, 200, .inl rt)))) (ww : Nat → Int32) (hRwq : atp f wq (eqc (.inl (G 1, 8, .inl ww)))) (esq : rf nx.toInt.toNat = some sq) (hab : qn ≠ qa)  : mI l yX10_tell cX10_tell 1 (.int) rm_s_X10_tellX D G b0 f [.ref u0] (fun r f1 => (∃ τ1, Ex τ τ1 ∧ iv r (-1) 8 ∧ TI G 9 τ1 f1 ∧ Fr [0, 4, 11, 12, 14, 15, 18, 50, 11001, 11004, 11005, 11006, 11007, 12001, 12006, 15002, 18002] τ f f1 ∧ (((((run (tb rt) ln.toInt.toNat 0 0 (fun _ => 0) 0 0 0).1 = -1 ∧ sz.toInt ≤ 7)) → r.toInt = sz.toInt) ∧ (¬ (((run (tb rt) ln.toInt.toNat 0 0 (fun _ => 0) 0 0 0).1 = -1 ∧ sz.toInt ≤ 7)) → r.toInt = -1)) ∧ (∃ nx1 : Int32, atp f1 bo (fd 5 (.int nx1)) ∧ iv nx1 0 11 ∧ ((((run (tb rt) ln.toInt.toNat 0 0 (fun _ => 0) 0 0 0).1 = -1 ∧ sz.toInt ≤ 7)) → nx1.toInt = (nx.toInt + 1) % 12) ∧ (¬ (((run (tb rt) ln.toInt.toNat 0 0 (fun _ => 0) 0 0 0).1 = -1 ∧ sz.toInt ≤ 7)) → nx1.toInt = nx.toInt)) ∧ (∃ ac1 : Int32, atp f1 bo (fd 0 (.int ac1)) ∧ iv ac1 0 12 ∧ ((((run (tb rt) ln.toInt.toNat 0 0 (fun _ => 0) 0 0 0).1 = -1 ∧ sz.toInt ≤ 7)) → ((ac.toInt = 12 → ac1.toInt = 12) ∧ (ac.toInt ≠ 12 → ac1.toInt = ac.toInt + 1))) ∧ (¬ (((run (tb rt) ln.toInt.toNat 0 0 (fun _ => 0) 0 0 0).1 = -1 ∧ sz.toInt ≤ 7)) → ac1.toInt = ac.toInt)) ∧ (∃ szn : Int32, atp f1 sn (fd 1 (.int szn)) ∧ iv szn 0 8 ∧ ((((run (tb rt) ln.toInt.toNat 0 0 (fun _ => 0) 0 0 0).1 = -1 ∧ sz.toInt ≤ 7)) → szn.toInt = sz.toInt + 1) ∧ (¬ (((run (tb rt) ln.toInt.toNat 0 0 (fun _ => 0) 0 0 0).1 = -1 ∧ sz.toInt ≤ 7)) → szn.toInt = sz.toInt)) ∧ (∃ sza : Int32, atp f1 sq (fd 1 (.int sza)) ∧ iv sza 0 8 ∧ ((((run (tb rt) ln.toInt.toNat 0 0 (fun _ => 0) 0 0 0).1 = -1 ∧ sz.toInt ≤ 7)) → sza.toInt = sz.toInt) ∧ (¬ (((run (tb rt) ln.toInt.toNat 0 0 (fun _ => 0) 0 0 0).1 = -1 ∧ sz.toInt ≤ 7)) → sza.toInt = sa.toInt)) ∧ (∃ ln1 : Int32, atp f1 ta (fd 0 (.int ln1)) ∧ iv ln1 0 200 ∧ ((((run (tb rt) ln.toInt.toNat 0 0 (fun _ => 0) 0 0 0).1 = -1 ∧ sz.toInt ≤ 7)) → ln1.toInt = 0) ∧ (¬ (((run (tb rt) ln.toInt.toNat 0 0 (fun _ => 0) 0 0 0).1 = -1 ∧ sz.toInt ≤ 7)) → ln1.toInt = ln.toInt)) ∧ (∃ ra1 : Nat → Option Nat, atp f1 qa (eqr G 4 8 ra1) ∧ (((((run (tb rt) ln.toInt.toNat 0 0 (fun _ => 0) 0 0 0).1 = -1 ∧ sz.toInt ≤ 7)) → ∀ k : Nat, k < 8 → ra1 k = rn k) ∧ (¬ (((run (tb rt) ln.toInt.toNat 0 0 (fun _ => 0) 0 0 0).1 = -1 ∧ sz.toInt ≤ 7)) → ra1 = ra))) ∧ (∃ rn1 : Nat → Option Nat, atp f1 qn (eqr G 4 8 rn1) ∧ (((((run (tb rt) ln.toInt.toNat 0 0 (fun _ => 0) 0 0 0).1 = -1 ∧ sz.toInt ≤ 7)) → ∃ z, SO G τ1 f1 z (tl (run (tb rt) ln.toInt.toNat 0 0 (fun _ => 0) 0 0 0)) ∧ ∀ k : Nat, rn1 k = if k = sz.toInt.toNat then some z else rn k) ∧ (¬ (((run (tb rt) ln.toInt.toNat 0 0 (fun _ => 0) 0 0 0).1 = -1 ∧ sz.toInt ≤ 7)) → rn1 = rn))) ∧ (∃ rq1 : Nat → Int32, atp f1 fq (eqc (.inl (G 1, 4, .inl rq1))) ∧ (∀ k : Nat, k < 4 → rq1 k = if (k : Int) = (if ¬ (run (tb rt) ln.toInt.toNat 0 0 (fun _ => 0) 0 0 0).1 = -1 then 0 else (if ¬ (sz.toInt ≤ 7) then 2 else -1)) then rq k + 1 else rq k)) ∧ FX [qa, sq, bo, qn, sn, fq, ta, wq] f f1)) := by
  refine met2 (own := RX10) (by decide) rfl (Nat.le_of_ble_eq_true rfl) ?_
  intro p e s m args below meth c ls Q hQ C hr hini hl h
  have hl : lv_has ls 1 [(0, .ref u0)] := hl
  obtain ⟨hx, hb, hml, hown, hts, hE0, hlk⟩ := id C
  have o := Fr.rf [0, 4, 11, 12, 14, 15, 18, 50, 11001, 11004, 11005, 11006, 11007, 12001, 12006, 15002, 18002] τ f
  have hfx := FX.rf [qa, sq, bo, qn, sn, fq, ta, wq] f
  refine lv_aload_n hx hb dX10_tell_0 rfl (lv_at hl 0 rfl) ?_
  refine t_getfd C h t hu0 (by decide) wf_10 (v := .ref ta) k_u0_0 fl_X10_12 dX10_tell_1 ?_
  obtain ⟨_, ra_1⟩ := t_rec t hta (by decide) wf_11
  refine k_i (r_V C h hl (As := []) (rest := []) (s_X7_readX l D G b0 τ f t ta hta ln hln k_ta_0 tq htq k_ta_1 wq hwq k_ta_2 sx hsx k_ta_3 sy hsy k_ta_4 bh hbh k_ta_5 la hla k_ta_6 rt hRtq ww hRwq) ra_1 (Cn := RX7) (T := TX7) (N := 7) rfl rfl mk_X7_read w_432 w_433 w_434 w_435 ⟨Nat.le_of_ble_eq_true rfl, Nat.le_of_ble_eq_true rfl⟩ rfl (Nat.le_of_ble_eq_true rfl) ⟨Nat.le_of_ble_eq_true rfl, Nat.le_of_ble_eq_true rfl⟩ rfl dX10_tell_4) h (fun ra_2 fa_3 H locs pa_4 h => ?_)
  obtain ⟨ira_2, tfa_3, ogfa_3, ⟨sx1_fa_3, sy1_fa_3, bh1_fa_3, la1_fa_3, ww1_fa_3, ⟨kpu0_3fa_3, ipu0_3fa_3⟩, ⟨kpu0_4fa_3, ipu0_4fa_3⟩, ⟨kpu0_5fa_3, ipu0_5fa_3⟩, ⟨kpu0_6fa_3, ipu0_6fa_3⟩, kRwqfa_3, jtfa_3⟩, fxfa_3⟩ := pa_4
  have ofa_3 : Fr [0, 4, 11, 12, 14, 15, 18, 50, 11001, 11004, 11005, 11006, 11007, 12001, 12006, 15002, 18002] τ f fa_3 := Fr.tr o ogfa_3 (by decide) (by decide)
  have ka_5 := atp.fr k_u0_1 ogfa_3 hu0 (by decide)
  have ka_6 := atp.fr k_u0_7 ogfa_3 hu0 (by decide)
  have ka_7 := atp.fr k_bo_0 ogfa_3 hbo (by decide)
  have ka_8 := atp.fr k_bo_5 ogfa_3 hbo (by decide)
  have ka_9 := atp.fr k_bo_1 ogfa_3 hbo (by decide)
  have ka_10 := atp.fr k_bo_3 ogfa_3 hbo (by decide)
  have ka_11 := atp.fr k_sn_0 ogfa_3 hsn (by decide)
  have ka_12 := atp.fr k_sn_1 ogfa_3 hsn (by decide)
  have ka_13 := atp.fr k_sq_0 ogfa_3 hsq (by decide)
  have ka_14 := atp.fr k_sq_1 ogfa_3 hsq (by decide)
  have ka_15 := atp.fr k_u0_0 ogfa_3 hu0 (by decide)
  have ka_16 := atp.fk k_ta_0 ogfa_3 hta (by decide) (by decide)
  have ka_17 := atp.fk k_ta_1 ogfa_3 hta (by decide) (by decide)
  have ka_18 := atp.fk k_ta_2 ogfa_3 hta (by decide) (by decide)
  have ka_19 := atp.fr hRqn ogfa_3 hqn (by decide)
  have ka_20 := atp.fr hRbf ogfa_3 hbf (by decide)
  have ka_21 := atp.fr hRqa ogfa_3 hqa (by decide)
  have ka_22 := atp.fr hRfq ogfa_3 hfq (by decide)
  have ka_23 := atp.fr hRtq ogfa_3 htq (by decide)
  have ka_24 := FX.tr hfx fxfa_3 (by simp)
  refine lv_iconst (v := -1) hx hb dX10_tell_7 (by decide) ?_
  refine lv_icmp_eq (tgt := 17) hx hb dX10_tell_8 (by decide) (fun ca_25 => ?_) (fun ca_25 => ?_)
  · have ca_26 : ra_2.toInt = (-1) := congrArg Int32.toInt ca_25
    have ia_27 : iv ra_2 (-1) (-1) := iv_Q ca_26 ira_2 (iv_k (x := (-1)) (k := (-1)) rfl) (by decide)
    refine lv_aload_n hx hb dX10_tell_17 rfl (lv_at hl 0 rfl) ?_
    refine t_getfd C h tfa_3 hu0 (by decide) wf_10 (v := .ref bo) ka_5 fl_X10_19 dX10_tell_18 ?_
    obtain ⟨_, ra_28⟩ := t_rec tfa_3 hbo (by decide) wf_12
    refine k_i (r_V C h hl (As := []) (rest := []) (s_X0_isFullX l D G b0 τ fa_3 tfa_3 bo hbo sn hsn ka_9 qn hqn ka_11 sz hsz ka_12) ra_28 (Cn := RX0) (T := TX0) (N := 6) rfl rfl mk_X0_isFull w_523 w_524 w_525 w_526 ⟨Nat.le_of_ble_eq_true rfl, Nat.le_of_ble_eq_true rfl⟩ rfl (Nat.le_of_ble_eq_true rfl) ⟨Nat.le_of_ble_eq_true rfl, Nat.le_of_ble_eq_true rfl⟩ rfl dX10_tell_21) h (fun ra_29 fa_30 H locs pa_31 h => ?_)
    obtain ⟨ira_29, tfa_30, ogfa_30, cnra_29, czra_29⟩ := pa_31
    have egfa_30 := Fr.nil2 ogfa_30
    subst egfa_30
    refine lv_if_eq (tgt := 33) hx hb dX10_tell_24 (by decide) (fun ca_32 => ?_) (fun ca_32 => ?_)
    · have ca_33 : ra_29.toInt = 0 := congrArg Int32.toInt ca_32
      have ia_34 : iv ra_29 0 0 := iv_Q ca_33 ira_29 (iv_k (x := 0) (k := 0) rfl) (by decide)
      have ia_35 := czra_29 ca_33
      refine lv_aload_n hx hb dX10_tell_33 rfl (lv_at hl 0 rfl) ?_
      refine t_getfd C h tfa_3 hu0 (by decide) wf_10 (v := .ref ta) ka_15 fl_X10_12 dX10_tell_34 ?_
      refine lv_iconst (v := 0) hx hb dX10_tell_37 (by decide) ?_
      refine t_put C h tfa_3 ofa_3 hta (by decide) (by decide) (by decide) wf_11 fw_11 (k := 0) rfl flw_X10_79 (Or.inr ⟨_, _, _, rfl, rfl⟩) (v := .int 0) rfl rfl ⟨_, rfl, ⟨by decide, by decide⟩⟩ dX10_tell_38 (fun fa_36 H locs h tfa_36 ofa_36 hq ha_ hn_ hk_ => ?_)
      have ka_37 := atp.tg ka_5 hq hu0 (by decide)
      have ka_38 := atp.tg ka_6 hq hu0 (by decide)
      have ka_39 := atp.tg ka_7 hq hbo (by decide)
      have ka_40 := atp.tg ka_8 hq hbo (by decide)
      have ka_41 := atp.tg ka_9 hq hbo (by decide)
      have ka_42 := atp.tg ka_10 hq hbo (by decide)
      have ka_43 := atp.tg ka_11 hq hsn (by decide)
      have ka_44 := atp.tg ka_12 hq hsn (by decide)
      have ka_45 := atp.tg ka_13 hq hsq (by decide)
      have ka_46 := atp.tg ka_14 hq hsq (by decide)
      have ka_47 := atp.tg ka_15 hq hu0 (by decide)
      have ka_49 := hk_ 1 _ (by decide) ka_17
      have ka_50 := hk_ 2 _ (by decide) ka_18
      have ka_51 := atp.tg ka_19 hq hqn (by decide)
      have ka_52 := atp.tg ka_20 hq hbf (by decide)
      have ka_53 := atp.tg ka_21 hq hqa (by decide)
      have ka_54 := atp.tg ka_22 hq hfq (by decide)
      have ka_55 := atp.tg ka_23 hq htq (by decide)
      have ka_56 := FX.up ka_24 hn_ (by simp)
      have ka_57 := hk_ 3 _ (by decide) kpu0_3fa_3
      have ka_58 := hk_ 4 _ (by decide) kpu0_4fa_3
      have ka_59 := hk_ 5 _ (by decide) kpu0_5fa_3
      have ka_60 := hk_ 6 _ (by decide) kpu0_6fa_3
      have ka_61 := atp.tg kRwqfa_3 hq hwq (by decide)
      have ka_62 := ha_
      refine lv_aload_n hx hb dX10_tell_41 rfl (lv_at hl 0 rfl) ?_
      refine t_getfd C h tfa_36 hu0 (by decide) wf_10 (v := .ref bo) ka_37 fl_X10_19 dX10_tell_42 ?_
      refine lv_aload_n hx hb dX10_tell_45 rfl (lv_at hl 0 rfl) ?_
      refine t_getfd C h tfa_36 hu0 (by decide) wf_10 (v := .ref ta) ka_47 fl_X10_12 dX10_tell_46 ?_
      obtain ⟨_, ra_63⟩ := t_rec tfa_36 hta (by decide) wf_11
      refine k_q (r_V C h hl (As := []) (rest := [.ref bo]) (s_X7_toldX l D G b0 τ fa_36 tfa_36 ta hta wq hwq ka_50 sx1_fa_3 ipu0_3fa_3 ka_57 sy1_fa_3 ipu0_4fa_3 ka_58 ww1_fa_3 ka_61) ra_63 (Cn := RX7) (T := TX7) (N := 7) rfl rfl mk_X7_told w_527 w_528 w_529 w_530 ⟨Nat.le_of_ble_eq_true rfl, Nat.le_of_ble_eq_true rfl⟩ rfl (Nat.le_of_ble_eq_true rfl) ⟨Nat.le_of_ble_eq_true rfl, Nat.le_of_ble_eq_true rfl⟩ rfl dX10_tell_49) h (fun ra_64 fa_65 H locs pa_66 h => ?_)
      obtain ⟨τfa_65, exfa_65, qra_64, tfa_65, ogfa_65, x0ra_64, fxfa_65⟩ := pa_66
      have ofa_65 : Fr [0, 4, 11, 12, 14, 15, 18, 50, 11001, 11004, 11005, 11006, 11007, 12001, 12006, 15002, 18002] τ f fa_65 := Fr.tr ofa_36 ogfa_65 (by decide) (by decide)
      have ka_67 := atp.fr ka_37 ogfa_65 hu0 (by decide)
      have ka_68 := atp.fr ka_38 ogfa_65 hu0 (by decide)
      have ka_69 := atp.fr ka_39 ogfa_65 hbo (by decide)
      have ka_70 := atp.fr ka_40 ogfa_65 hbo (by decide)
      have ka_71 := atp.fr ka_41 ogfa_65 hbo (by decide)
      have ka_72 := atp.fr ka_42 ogfa_65 hbo (by decide)
      have ka_73 := atp.fr ka_43 ogfa_65 hsn (by decide)
      have ka_74 := atp.fr ka_44 ogfa_65 hsn (by decide)
      have ka_75 := atp.fr ka_45 ogfa_65 hsq (by decide)
      have ka_76 := atp.fr ka_46 ogfa_65 hsq (by decide)
      have ka_77 := atp.fr ka_47 ogfa_65 hu0 (by decide)
      have ka_78 := atp.fr ka_49 ogfa_65 hta (by decide)
      have ka_79 := atp.fr ka_50 ogfa_65 hta (by decide)
      have ka_80 := atp.fr ka_51 ogfa_65 hqn (by decide)
      have ka_81 := atp.fr ka_52 ogfa_65 hbf (by decide)
      have ka_82 := atp.fr ka_53 ogfa_65 hqa (by decide)
      have ka_83 := atp.fr ka_54 ogfa_65 hfq (by decide)
      have ka_84 := atp.fr ka_55 ogfa_65 htq (by decide)
      have ka_85 := FX.tr ka_56 fxfa_65 (by simp)
      have ka_86 := atp.fr ka_57 ogfa_65 hta (by decide)
      have ka_87 := atp.fr ka_58 ogfa_65 hta (by decide)
      have ka_88 := atp.fr ka_59 ogfa_65 hta (by decide)
      have ka_89 := atp.fr ka_60 ogfa_65 hta (by decide)
      have ka_90 := atp.fr ka_61 ogfa_65 hwq (by decide)
      have ka_91 := atp.fr ka_62 ogfa_65 hta (by decide)
      have Ofa_65 : Fr [0, 4, 11, 12, 14, 15, 18, 50, 11001, 11004, 11005, 11006, 11007, 12001, 12006, 15002, 18002] τ f fa_65 := ofa_65
      have xfa_65 : Ex τ τfa_65 := exfa_65
      have ha_92 : τfa_65 bo = 12 := Ex.at exfa_65 hbo (by decide)
      have ha_93 : τfa_65 u0 = 10 := Ex.at exfa_65 hu0 (by decide)
      have ha_94 : τfa_65 fq = 50 := Ex.at exfa_65 hfq (by decide)
      have ha_95 : τfa_65 sn = 15 := Ex.at exfa_65 hsn (by decide)
      have ha_96 : τfa_65 bf = 17 := Ex.at exfa_65 hbf (by decide)
      have ha_97 : τfa_65 qn = 4 := Ex.at exfa_65 hqn (by decide)
      have ha_98 : τfa_65 qa = 4 := Ex.at exfa_65 hqa (by decide)
      have ha_99 : τfa_65 ta = 11 := Ex.at exfa_65 hta (by decide)
      have ha_100 : τfa_65 tq = 13 := Ex.at exfa_65 htq (by decide)
      have ha_101 : τfa_65 wq = 14 := Ex.at exfa_65 hwq (by decide)
      have ha_102 : τfa_65 sq = 18 := Ex.at exfa_65 hsq (by decide)
      have ofa_65z := Fr.rf [0, 4, 11, 12, 14, 15, 18, 50, 11001, 11004, 11005, 11006, 11007, 12001, 12006, 15002, 18002] τfa_65 fa_65
      obtain ⟨qa_103, rfl, tqa_103⟩ := qra_64
      obtain ⟨_, ra_104⟩ := t_rec tfa_65 ha_92 (by decide) wf_12
      refine k_i (r_V C h hl (As := [.ref qa_103]) (rest := []) (s_X0_addX l D G b0 τfa_65 fa_65 tfa_65 bo ha_92 qa_103 tqa_103 sq ha_102 ac hac ka_69 nx hnx ka_70 sn ha_95 ka_71 bf ha_96 ka_72 qn ha_97 ka_73 sz hsz ka_74 qa ha_98 ka_75 rn ka_80 rf ka_81 ra ka_82 esq hab (by omega)) ra_104 (Cn := RX0) (T := TX0) (N := 6) rfl rfl mk_X0_add w_576 w_577 w_578 w_579 ⟨Nat.le_of_ble_eq_true rfl, Nat.le_of_ble_eq_true rfl⟩ rfl (Nat.le_of_ble_eq_true rfl) ⟨Nat.le_of_ble_eq_true rfl, Nat.le_of_ble_eq_true rfl⟩ rfl dX10_tell_52) h (fun ra_105 fa_106 H locs pa_107 h => ?_)
      obtain ⟨ira_105, tfa_106, ogfa_106, x0ra_105, ⟨nx1_fa_106, kpu0_5fa_106, ipu0_5fa_106, rpu0_5fa_106⟩, ⟨ac1_fa_106, kpu0_0fa_106, ipu0_0fa_106, rpu0_0fa_106⟩, ⟨sza_fa_106, kpsq_1fa_106, ipsq_1fa_106, rpsq_1fa_106⟩, ⟨szn_fa_106, kpsn_1fa_106, ipsn_1fa_106, rpsn_1fa_106⟩, ⟨ra1_fa_106, kRqafa_106, pRqafa_106⟩, ⟨rn1_fa_106, kRqnfa_106, pRqnfa_106⟩, fxfa_106⟩ := pa_107
      have ofa_106 : Fr [0, 4, 11, 12, 14, 15, 18, 50, 11001, 11004, 11005, 11006, 11007, 12001, 12006, 15002, 18002] τfa_65 fa_65 fa_106 := Fr.tr ofa_65z ogfa_106 (by decide) (by decide)
      have ka_108 := atp.fr ka_67 ogfa_106 ha_93 (by decide)
      have ka_109 := atp.fr ka_68 ogfa_106 ha_93 (by decide)
      have ka_110 := atp.fk ka_71 ogfa_106 ha_92 (by decide) (by decide)
      have ka_111 := atp.fk ka_72 ogfa_106 ha_92 (by decide) (by decide)
      have ka_112 := atp.fk ka_73 ogfa_106 ha_95 (by decide) (by decide)
      have ka_113 := atp.fk ka_75 ogfa_106 ha_102 (by decide) (by decide)
      have ka_114 := atp.fr ka_77 ogfa_106 ha_93 (by decide)
      have ka_115 := atp.fr ka_78 ogfa_106 ha_99 (by decide)
      have ka_116 := atp.fr ka_79 ogfa_106 ha_99 (by decide)
      have ka_117 := atp.fr ka_81 ogfa_106 ha_96 (by decide)
      have ka_118 := atp.fr ka_83 ogfa_106 ha_94 (by decide)
      have ka_119 := atp.fr ka_84 ogfa_106 ha_100 (by decide)
      have ka_120 := FX.tr ka_85 fxfa_106 (by simp)
      have ka_121 := atp.fr ka_86 ogfa_106 ha_99 (by decide)
      have ka_122 := atp.fr ka_87 ogfa_106 ha_99 (by decide)
      have ka_123 := atp.fr ka_88 ogfa_106 ha_99 (by decide)
      have ka_124 := atp.fr ka_89 ogfa_106 ha_99 (by decide)
      have ka_125 := atp.fr ka_90 ogfa_106 ha_101 (by decide)
      have ka_126 := atp.fr ka_91 ogfa_106 ha_99 (by decide)
      exact u_iret C h hr hQ (⟨τfa_65, xfa_65, (iv_w ira_105 (by decide)), tfa_106, (Fr.tr Ofa_65 (Fr.cv xfa_65 ofa_106 (by decide) (fun _ h_ => h_)) (fun _ h_ => h_) (fun _ h_ => h_)), ⟨fun _ => (by omega), fun z_ => (z_ ⟨by have := jtfa_3.1; omega, by omega⟩).elim⟩, ⟨nx1_fa_106, kpu0_5fa_106, ipu0_5fa_106, ⟨fun _ => (by omega), fun z_ => (z_ ⟨by have := jtfa_3.1; omega, by omega⟩).elim⟩⟩, ⟨ac1_fa_106, kpu0_0fa_106, ipu0_0fa_106, ⟨fun _ => (by omega), fun z_ => (z_ ⟨by have := jtfa_3.1; omega, by omega⟩).elim⟩⟩, ⟨szn_fa_106, kpsn_1fa_106, ipsn_1fa_106, ⟨fun _ => (by omega), fun z_ => (z_ ⟨by have := jtfa_3.1; omega, by omega⟩).elim⟩⟩, ⟨sza_fa_106, kpsq_1fa_106, ipsq_1fa_106, ⟨fun _ => (by omega), fun z_ => (z_ ⟨by have := jtfa_3.1; omega, by omega⟩).elim⟩⟩, ⟨0, ka_126, ⟨by decide, by decide⟩, ⟨fun _ => rfl, fun z_ => (z_ ⟨by have := jtfa_3.1; omega, by omega⟩).elim⟩⟩, ⟨ra1_fa_106, kRqafa_106, ⟨fun _ => pRqafa_106, fun z_ => (z_ ⟨by have := jtfa_3.1; omega, by omega⟩).elim⟩⟩, ⟨rn1_fa_106, kRqnfa_106, ⟨fun _ => (by
          obtain ⟨q_, hq_, hso_⟩ := x0ra_64
          cases hq_
          have hj_ := jtfa_3.2 (by omega)
          exact ⟨_, (SO.congr hso_ (tw_row hj_.1 hj_.2.1 hj_.2.2)).fx fxfa_106 (fa_cons (tg12 ha_98 (by decide)) (fa_cons (tg12 ha_102 (by decide)) (fa_cons (tg12 ha_92 (by decide)) (fa_cons (tg12 ha_97 (by decide)) (fa_cons (tg12 ha_95 (by decide)) fa_nil))))), pRqnfa_106⟩), fun z_ => (z_ ⟨by have := jtfa_3.1; omega, by omega⟩).elim⟩⟩, ⟨rq, ka_118, (bump_no (by rw [if_neg (by have := jtfa_3.1; omega), if_neg (by omega)]))⟩, ka_120⟩) (Nat.le_of_ble_eq_true rfl) (Nat.le_of_ble_eq_true rfl) dX10_tell_55
    · have ca_33 : ra_29.toInt ≠ 0 := fun z_ => ca_32 (Int32.toInt_inj.mp z_)
      have ia_34 : iv ra_29 1 1 := iv_Nl ca_33 ira_29 (by decide)
      have ia_35 := cnra_29 ca_33
      refine lv_aload_n hx hb dX10_tell_27 rfl (lv_at hl 0 rfl) ?_
      refine lv_iconst (v := 2) hx hb dX10_tell_28 (by decide) ?_
      obtain ⟨_, ra_36⟩ := t_rec tfa_3 hu0 (by decide) wf_10
      refine k_i (r_V C h hl (As := [.int 2]) (rest := []) (s_X10_refuseX l D G b0 τ fa_3 tfa_3 u0 hu0 2 (iv_w (iv_k (x := 2) (k := 2) rfl) (by decide)) fq hfq ka_6 rq ka_22) ra_36 (Cn := RX10) (T := TX10) (N := 10) rfl rfl mk_X10_refuse w_519 w_521 w_8 w_522 ⟨Nat.le_of_ble_eq_true rfl, Nat.le_of_ble_eq_true rfl⟩ rfl (Nat.le_of_ble_eq_true rfl) ⟨Nat.le_of_ble_eq_true rfl, Nat.le_of_ble_eq_true rfl⟩ rfl dX10_tell_29) h (fun ra_37 fa_38 H locs pa_39 h => ?_)
      obtain ⟨ira_37, tfa_38, ogfa_38, ⟨rq1_fa_38, kRfqfa_38, pRfqfa_38⟩, fxfa_38⟩ := pa_39
      have ofa_38 : Fr [0, 4, 11, 12, 14, 15, 18, 50, 11001, 11004, 11005, 11006, 11007, 12001, 12006, 15002, 18002] τ f fa_38 := Fr.tr ofa_3 ogfa_38 (by decide) (by decide)
      have ka_40 := atp.fr ka_5 ogfa_38 hu0 (by decide)
      have ka_41 := atp.fr ka_6 ogfa_38 hu0 (by decide)
      have ka_42 := atp.fr ka_7 ogfa_38 hbo (by decide)
      have ka_43 := atp.fr ka_8 ogfa_38 hbo (by decide)
      have ka_44 := atp.fr ka_9 ogfa_38 hbo (by decide)
      have ka_45 := atp.fr ka_10 ogfa_38 hbo (by decide)
      have ka_46 := atp.fr ka_11 ogfa_38 hsn (by decide)
      have ka_47 := atp.fr ka_12 ogfa_38 hsn (by decide)
      have ka_48 := atp.fr ka_13 ogfa_38 hsq (by decide)
      have ka_49 := atp.fr ka_14 ogfa_38 hsq (by decide)
      have ka_50 := atp.fr ka_15 ogfa_38 hu0 (by decide)
      have ka_51 := atp.fr ka_16 ogfa_38 hta (by decide)
      have ka_52 := atp.fr ka_17 ogfa_38 hta (by decide)
      have ka_53 := atp.fr ka_18 ogfa_38 hta (by decide)
      have ka_54 := atp.fr ka_19 ogfa_38 hqn (by decide)
      have ka_55 := atp.fr ka_20 ogfa_38 hbf (by decide)
      have ka_56 := atp.fr ka_21 ogfa_38 hqa (by decide)
      have ka_57 := atp.fr ka_23 ogfa_38 htq (by decide)
      have ka_58 := FX.tr ka_24 fxfa_38 (by simp)
      have ka_59 := atp.fr kpu0_3fa_3 ogfa_38 hta (by decide)
      have ka_60 := atp.fr kpu0_4fa_3 ogfa_38 hta (by decide)
      have ka_61 := atp.fr kpu0_5fa_3 ogfa_38 hta (by decide)
      have ka_62 := atp.fr kpu0_6fa_3 ogfa_38 hta (by decide)
      have ka_63 := atp.fr kRwqfa_3 ogfa_38 hwq (by decide)
      exact u_iret C h hr hQ (⟨τ, (Ex.rf τ), (iv_w ira_37 (by decide)), tfa_38, ofa_38, ⟨fun z_ => absurd z_ (by have := jtfa_3.1; omega), fun _ => (by omega)⟩, ⟨nx, ka_43, hnx, ⟨fun z_ => absurd z_ (by have := jtfa_3.1; omega), fun _ => rfl⟩⟩, ⟨ac, ka_42, hac, ⟨fun z_ => absurd z_ (by have := jtfa_3.1; omega), fun _ => rfl⟩⟩, ⟨sz, ka_47, hsz, ⟨fun z_ => absurd z_ (by have := jtfa_3.1; omega), fun _ => rfl⟩⟩, ⟨sa, ka_49, hsa, ⟨fun z_ => absurd z_ (by have := jtfa_3.1; omega), fun _ => rfl⟩⟩, ⟨ln, ka_51, hln, ⟨fun z_ => absurd z_ (by have := jtfa_3.1; omega), fun _ => rfl⟩⟩, ⟨ra, ka_56, ⟨fun z_ => absurd z_ (by have := jtfa_3.1; omega), fun _ => rfl⟩⟩, ⟨rn, ka_54, ⟨fun z_ => absurd z_ (by have := jtfa_3.1; omega), fun _ => rfl⟩⟩, ⟨rq1_fa_38, kRfqfa_38, (bump_eq (c := 2) pRfqfa_38 rfl (by decide) (by rw [if_neg (by have := jtfa_3.1; omega), if_pos (by omega)]))⟩, ka_58⟩) (Nat.le_of_ble_eq_true rfl) (Nat.le_of_ble_eq_true rfl) dX10_tell_32
  · have ca_26 : ra_2.toInt ≠ (-1) := fun z_ => ca_25 (Int32.toInt_inj.mp z_)
    have ia_27 : iv ra_2 0 200 := iv_Nl ca_26 ira_2 (by decide)
    refine lv_aload_n hx hb dX10_tell_11 rfl (lv_at hl 0 rfl) ?_
    refine lv_iconst (v := 0) hx hb dX10_tell_12 (by decide) ?_
    obtain ⟨_, ra_28⟩ := t_rec tfa_3 hu0 (by decide) wf_10
    refine k_i (r_V C h hl (As := [.int 0]) (rest := []) (s_X10_refuseX l D G b0 τ fa_3 tfa_3 u0 hu0 0 (iv_w (iv_k (x := 0) (k := 0) rfl) (by decide)) fq hfq ka_6 rq ka_22) ra_28 (Cn := RX10) (T := TX10) (N := 10) rfl rfl mk_X10_refuse w_519 w_521 w_8 w_522 ⟨Nat.le_of_ble_eq_true rfl, Nat.le_of_ble_eq_true rfl⟩ rfl (Nat.le_of_ble_eq_true rfl) ⟨Nat.le_of_ble_eq_true rfl, Nat.le_of_ble_eq_true rfl⟩ rfl dX10_tell_13) h (fun ra_29 fa_30 H locs pa_31 h => ?_)
    obtain ⟨ira_29, tfa_30, ogfa_30, ⟨rq1_fa_30, kRfqfa_30, pRfqfa_30⟩, fxfa_30⟩ := pa_31
    have ofa_30 : Fr [0, 4, 11, 12, 14, 15, 18, 50, 11001, 11004, 11005, 11006, 11007, 12001, 12006, 15002, 18002] τ f fa_30 := Fr.tr ofa_3 ogfa_30 (by decide) (by decide)
    have ka_32 := atp.fr ka_5 ogfa_30 hu0 (by decide)
    have ka_33 := atp.fr ka_6 ogfa_30 hu0 (by decide)
    have ka_34 := atp.fr ka_7 ogfa_30 hbo (by decide)
    have ka_35 := atp.fr ka_8 ogfa_30 hbo (by decide)
    have ka_36 := atp.fr ka_9 ogfa_30 hbo (by decide)
    have ka_37 := atp.fr ka_10 ogfa_30 hbo (by decide)
    have ka_38 := atp.fr ka_11 ogfa_30 hsn (by decide)
    have ka_39 := atp.fr ka_12 ogfa_30 hsn (by decide)
    have ka_40 := atp.fr ka_13 ogfa_30 hsq (by decide)
    have ka_41 := atp.fr ka_14 ogfa_30 hsq (by decide)
    have ka_42 := atp.fr ka_15 ogfa_30 hu0 (by decide)
    have ka_43 := atp.fr ka_16 ogfa_30 hta (by decide)
    have ka_44 := atp.fr ka_17 ogfa_30 hta (by decide)
    have ka_45 := atp.fr ka_18 ogfa_30 hta (by decide)
    have ka_46 := atp.fr ka_19 ogfa_30 hqn (by decide)
    have ka_47 := atp.fr ka_20 ogfa_30 hbf (by decide)
    have ka_48 := atp.fr ka_21 ogfa_30 hqa (by decide)
    have ka_49 := atp.fr ka_23 ogfa_30 htq (by decide)
    have ka_50 := FX.tr ka_24 fxfa_30 (by simp)
    have ka_51 := atp.fr kpu0_3fa_3 ogfa_30 hta (by decide)
    have ka_52 := atp.fr kpu0_4fa_3 ogfa_30 hta (by decide)
    have ka_53 := atp.fr kpu0_5fa_3 ogfa_30 hta (by decide)
    have ka_54 := atp.fr kpu0_6fa_3 ogfa_30 hta (by decide)
    have ka_55 := atp.fr kRwqfa_3 ogfa_30 hwq (by decide)
    exact u_iret C h hr hQ (⟨τ, (Ex.rf τ), (iv_w ira_29 (by decide)), tfa_30, ofa_30, ⟨fun z_ => absurd z_ (by have := jtfa_3.1; omega), fun _ => (by omega)⟩, ⟨nx, ka_35, hnx, ⟨fun z_ => absurd z_ (by have := jtfa_3.1; omega), fun _ => rfl⟩⟩, ⟨ac, ka_34, hac, ⟨fun z_ => absurd z_ (by have := jtfa_3.1; omega), fun _ => rfl⟩⟩, ⟨sz, ka_39, hsz, ⟨fun z_ => absurd z_ (by have := jtfa_3.1; omega), fun _ => rfl⟩⟩, ⟨sa, ka_41, hsa, ⟨fun z_ => absurd z_ (by have := jtfa_3.1; omega), fun _ => rfl⟩⟩, ⟨ln, ka_43, hln, ⟨fun z_ => absurd z_ (by have := jtfa_3.1; omega), fun _ => rfl⟩⟩, ⟨ra, ka_48, ⟨fun z_ => absurd z_ (by have := jtfa_3.1; omega), fun _ => rfl⟩⟩, ⟨rn, ka_46, ⟨fun z_ => absurd z_ (by have := jtfa_3.1; omega), fun _ => rfl⟩⟩, ⟨rq1_fa_30, kRfqfa_30, (bump_eq (c := 0) pRfqfa_30 rfl (by decide) (by rw [if_pos (by have := jtfa_3.1; omega)]))⟩, ka_50⟩) (Nat.le_of_ble_eq_true rfl) (Nat.le_of_ble_eq_true rfl) dX10_tell_16
