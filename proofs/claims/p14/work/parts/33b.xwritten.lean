theorem dJ4_setLength_d00df_0 : decode cJ4_setLength_d00df 0 = .ok (.aload_n 0, 1) := by decide +kernel
theorem dJ4_setLength_d00df_1 : decode cJ4_setLength_d00df 1 = .ok (.iload_n 1, 1) := by decide +kernel
theorem dJ4_setLength_d00df_2 : decode cJ4_setLength_d00df 2 = .ok (.invokespecial 333, 3) := by decide +kernel
theorem w_1104 : Cond.methodLink "java/lang/StringBuilder" 333 yJ5_setLength_d00df ∈ wAll := wI5 49 (by decide +kernel) (by decide +kernel)
theorem mk_J5_setLength_d00df : mk yJ5_setLength_d00df 1 := ⟨by decide +kernel, w_106⟩
theorem w_1105 : Cond.instanceMethod yJ5_setLength_d00df ∈ wAll := wI5 50 (by decide +kernel) (by decide +kernel)
theorem w_2059 : Cond.sameMethod yJ5_setLength_d00df.cls yJ5_setLength_d00df.cls yJ5_setLength_d00df.name yJ5_setLength_d00df.desc ∈ wAll := wI9 44 (by decide +kernel) (by decide +kernel)
theorem w_1106 : Cond.code yJ5_setLength_d00df cJ5_setLength_d00df 2 none ∈ wAll := wI5 51 (by decide +kernel) (by decide +kernel)
theorem dJ4_setLength_d00df_5 : decode cJ4_setLength_d00df 5 = .ok (.return_, 1) := by decide +kernel
theorem dX10_written_0 : decode cX10_written 0 = .ok (.aload_n 0, 1) := by decide +kernel
theorem dX10_written_1 : decode cX10_written 1 = .ok (.getfield 19, 3) := by decide +kernel
theorem dX10_written_4 : decode cX10_written 4 = .ok (.iload_n 1, 1) := by decide +kernel
theorem dX10_written_5 : decode cX10_written 5 = .ok (.invokevirtual 110, 3) := by decide +kernel
theorem dX10_written_8 : decode cX10_written 8 = .ok (.astore_n 3, 1) := by decide +kernel
theorem dX10_written_9 : decode cX10_written 9 = .ok (.aload_n 3, 1) := by decide +kernel
theorem dX10_written_10 : decode cX10_written 10 = .ok (.ifnonnull 5, 3) := by decide +kernel
theorem dX10_written_13 : decode cX10_written 13 = .ok (.iconst (-1), 1) := by decide +kernel
theorem dX10_written_15 : decode cX10_written 15 = .ok (.aload_n 0, 1) := by decide +kernel
theorem dX10_written_16 : decode cX10_written 16 = .ok (.getfield 71, 3) := by decide +kernel
theorem w_388 : Cond.fieldLink "QuarterWalks" 71 "QuarterWalks" "script" "Ljava/lang/StringBuilder;" ∈ wAll := wI2 53 (by decide +kernel) (by decide +kernel)
theorem fl_X10_71 : fl RX10 71 11 9 := ⟨RX10, TX10, 10, rfl, inA_X10, by decide, w_388⟩
theorem dX10_written_19 : decode cX10_written 19 = .ok (.iconst 0, 1) := by decide +kernel
theorem dX10_written_20 : decode cX10_written 20 = .ok (.invokevirtual 345, 3) := by decide +kernel
theorem w_1100 : Cond.methodLink "QuarterWalks" 345 yJ4_setLength_d00df ∈ wAll := wI5 45 (by decide +kernel) (by decide +kernel)
theorem w_1102 : Cond.selects yJ4_setLength_d00df.cls yJ4_setLength_d00df yJ4_setLength_d00df ∈ wAll := wI5 47 (by decide +kernel) (by decide +kernel)
theorem mk_J4_setLength_d00df : mk yJ4_setLength_d00df 1 := ⟨by decide +kernel, w_107⟩
theorem w_1101 : Cond.instanceMethod yJ4_setLength_d00df ∈ wAll := wI5 46 (by decide +kernel) (by decide +kernel)
theorem w_1103 : Cond.code yJ4_setLength_d00df cJ4_setLength_d00df 2 none ∈ wAll := wI5 48 (by decide +kernel) (by decide +kernel)
theorem dX10_written_23 : decode cX10_written 23 = .ok (.aload_n 3, 1) := by decide +kernel
theorem dX10_written_24 : decode cX10_written 24 = .ok (.aload_n 0, 1) := by decide +kernel
theorem dX10_written_25 : decode cX10_written 25 = .ok (.getfield 71, 3) := by decide +kernel
theorem dX10_written_28 : decode cX10_written 28 = .ok (.invokevirtual 348, 3) := by decide +kernel
theorem w_1150 : Cond.methodLink "QuarterWalks" 348 yX6_writeTo ∈ wAll := wI5 95 (by decide +kernel) (by decide +kernel)
theorem w_1152 : Cond.selects yX6_writeTo.cls yX6_writeTo yX6_writeTo ∈ wAll := wI5 97 (by decide +kernel) (by decide +kernel)
theorem mk_X6_writeTo : mk yX6_writeTo 1 := ⟨by decide +kernel, w_115⟩
theorem w_1151 : Cond.instanceMethod yX6_writeTo ∈ wAll := wI5 96 (by decide +kernel) (by decide +kernel)
theorem w_1153 : Cond.code yX6_writeTo cX6_writeTo 3 none ∈ wAll := wI5 98 (by decide +kernel) (by decide +kernel)
theorem dX10_written_31 : decode cX10_written 31 = .ok (.iload_n 2, 1) := by decide +kernel
theorem dX10_written_32 : decode cX10_written 32 = .ok (.iconst (-1), 1) := by decide +kernel
theorem dX10_written_33 : decode cX10_written 33 = .ok (.if_icmp .ne 11, 3) := by decide +kernel
theorem dX10_written_44 : decode cX10_written 44 = .ok (.iload_n 2, 1) := by decide +kernel
theorem dX10_written_45 : decode cX10_written 45 = .ok (.iconst 0, 1) := by decide +kernel
theorem dX10_written_46 : decode cX10_written 46 = .ok (.aload_n 0, 1) := by decide +kernel
theorem dX10_written_47 : decode cX10_written 47 = .ok (.getfield 71, 3) := by decide +kernel
theorem dX10_written_50 : decode cX10_written 50 = .ok (.invokevirtual 352, 3) := by decide +kernel
theorem w_1274 : Cond.methodLink "QuarterWalks" 352 yJ4_length_8abf5 ∈ wAll := wI5 219 (by decide +kernel) (by decide +kernel)
theorem dX10_written_53 : decode cX10_written 53 = .ok (.iconst 1, 1) := by decide +kernel
theorem dX10_written_54 : decode cX10_written 54 = .ok (.isub, 1) := by decide +kernel
theorem dX10_written_55 : decode cX10_written 55 = .ok (.invokestatic 87, 3) := by decide +kernel
theorem dX10_written_58 : decode cX10_written 58 = .ok (.ifCond .ne 5, 3) := by decide +kernel
theorem dX10_written_63 : decode cX10_written 63 = .ok (.aload_n 0, 1) := by decide +kernel
theorem dX10_written_64 : decode cX10_written 64 = .ok (.getfield 71, 3) := by decide +kernel
theorem dX10_written_67 : decode cX10_written 67 = .ok (.iload_n 2, 1) := by decide +kernel
theorem dX10_written_68 : decode cX10_written 68 = .ok (.invokevirtual 354, 3) := by decide +kernel
theorem w_1275 : Cond.methodLink "QuarterWalks" 354 yJ4_charAt_5068e ∈ wAll := wI5 220 (by decide +kernel) (by decide +kernel)
theorem w_1277 : Cond.selects yJ4_charAt_5068e.cls yJ4_charAt_5068e yJ4_charAt_5068e ∈ wAll := wI5 222 (by decide +kernel) (by decide +kernel)
theorem mk_J4_charAt_5068e : mk yJ4_charAt_5068e 1 := ⟨by decide +kernel, w_107⟩
theorem w_1276 : Cond.instanceMethod yJ4_charAt_5068e ∈ wAll := wI5 221 (by decide +kernel) (by decide +kernel)
theorem w_1278 : Cond.code yJ4_charAt_5068e cJ4_charAt_5068e 2 (some .char) ∈ wAll := wI5 223 (by decide +kernel) (by decide +kernel)
theorem dX10_written_61 : decode cX10_written 61 = .ok (.iconst (-1), 1) := by decide +kernel
theorem dX10_written_36 : decode cX10_written 36 = .ok (.aload_n 0, 1) := by decide +kernel
theorem dX10_written_37 : decode cX10_written 37 = .ok (.getfield 71, 3) := by decide +kernel
theorem dX10_written_40 : decode cX10_written 40 = .ok (.invokevirtual 352, 3) := by decide +kernel
theorem dX10_written_14 : decode cX10_written 14 = .ok (.ireturn, 1) := by decide +kernel
theorem dX10_written_71 : decode cX10_written 71 = .ok (.ireturn, 1) := by decide +kernel
theorem dX10_written_62 : decode cX10_written 62 = .ok (.ireturn, 1) := by decide +kernel
theorem dX10_written_43 : decode cX10_written 43 = .ok (.ireturn, 1) := by decide +kernel
abbrev rm_s_J4_setLength_d00dfX : Room := { frames := 2, cells := 0, slots := 0, locals := 43 }
set_option maxRecDepth 100000 in
set_option maxHeartbeats 4000000 in
theorem s_J4_setLength_d00dfX (l : Launch) (D : va_G) (G : Nat → Nat) (b0 : Nat) (τ : Nat → Nat) (f : hM) (t : TI G 9 τ f) (u0 : Nat) (hu0 : τ u0 = 52) (u1 : Int32) (hu1 : iv u1 0 0) (ct : Int32) (hct : iv ct 0 100) (k_u0_3 : atp f u0 (fd 3 (.int ct))) : mV l yJ4_setLength_d00df cJ4_setLength_d00df 2 rm_s_J4_setLength_d00dfX D G b0 f [.ref u0, .int u1] (fun f1 => TI G 9 τ f1 ∧ Fr [52, 52003, 52004] τ f f1 ∧ (CPs G τ f1 u0) ∧ (∃ ct1 : Int32, atp f1 u0 (fd 3 (.int ct1)) ∧ iv ct1 0 0 ∧ ct1.toInt = 0)) := by
  refine met2 (own := RJ4) (by decide) rfl (Nat.le_of_ble_eq_true rfl) ?_
  intro p e s m args below meth c ls Q hQ C hr hini hl h
  have hl : lv_has ls 2 [(0, .ref u0), (1, .int u1)] := hl
  obtain ⟨hx, hb, hml, hown, hts, hE0, hlk⟩ := id C
  have o := Fr.rf [52, 52003, 52004] τ f
  refine lv_aload_n hx hb dJ4_setLength_d00df_0 rfl (lv_at hl 0 rfl) ?_
  refine lv_iload_n hx hb dJ4_setLength_d00df_1 rfl (lv_at hl 1 rfl) ?_
  obtain ⟨_, r1⟩ := t_rec t hu0 (by decide) wf_52
  refine k_v (r_U C h hl (As := [.int u1]) (rest := []) (s_J5_setLength_d00dfX l D G b0 τ f t u0 hu0 u1 hu1 ct hct k_u0_3) r1 (Cn := RJ4) (T := TJ4) (N := 4) rfl rfl mk_J5_setLength_d00df (by decide) w_1104 w_1105 w_2059 w_377 w_1106 ⟨Nat.le_of_ble_eq_true rfl, Nat.le_of_ble_eq_true rfl⟩ rfl (Nat.le_of_ble_eq_true rfl) ⟨Nat.le_of_ble_eq_true rfl, Nat.le_of_ble_eq_true rfl⟩ rfl dJ4_setLength_d00df_2) h (fun f3 H locs p4 h => ?_)
  obtain ⟨tf3, ogf3, x0r2, ⟨ct1_f3, kpu0_3f3, ipu0_3f3, rpu0_3f3⟩⟩ := p4
  have of3 : Fr [52, 52003, 52004] τ f f3 := Fr.tr o ogf3 (by decide) (by decide)
  exact u_vret C h hr hQ (⟨tf3, of3, x0r2, ⟨ct1_f3, kpu0_3f3, ipu0_3f3, (by omega)⟩⟩) (Nat.le_of_ble_eq_true rfl) (Nat.le_of_ble_eq_true rfl) dJ4_setLength_d00df_5
abbrev rm_s_X10_writtenX : Room := { frames := 8, cells := 49, slots := 4900, locals := 192 }
set_option maxRecDepth 100000 in
set_option maxHeartbeats 4000000 in
theorem s_X10_writtenX (l : Launch) (D : va_G) (G : Nat → Nat) (b0 : Nat) (τ : Nat → Nat) (f : hM) (t : TI G 9 τ f) (u0 : Nat) (hu0 : τ u0 = 10) (u1 : Int32) (hu1 : iv u1 (-2147483648) 2147483647) (u2 : Int32) (hu2 : iv u2 (-2147483648) 2147483647) (gq rq mq : Nat) (hgq : τ gq = 20) (kq2 : atp f u0 (fd 2 (.ref gq))) (hGJ : GJ τ f gq rq mq) : mI l yX10_written cX10_written 4 (.int) rm_s_X10_writtenX D G b0 f [.ref u0, .int u1, .int u2] (fun r f1 => (∃ τ1, Ex τ τ1 ∧ iv r (-1) 255 ∧ TI G 9 τ1 f1 ∧ Fr [0, 52, 53, 52001, 52003, 52004] τ f f1 ∧ GJ τ1 f1 gq rq mq)) := by
  refine met2 (own := RX10) (by decide) rfl (Nat.le_of_ble_eq_true rfl) ?_
  intro p e s m args below meth c ls Q hQ C hr hini hl h
  have hl : lv_has ls 4 [(0, .ref u0), (1, .int u1), (2, .int u2)] := hl
  obtain ⟨hx, hb, hml, hown, hts, hE0, hlk⟩ := id C
  have o := Fr.rf [0, 52, 53, 52001, 52003, 52004] τ f
  obtain ⟨sb, hsb, ksb⟩ := t_fref (tq := 52) (k := 9) t hu0 (by decide) wf_10 rfl
  obtain ⟨ct0, hct0, kct⟩ := t_fint (k := 3) t hsb (by decide) wf_52 rfl
  refine lv_aload_n hx hb dX10_written_0 rfl (lv_at hl 0 rfl) ?_
  refine t_getr (tq := 12) C h t hu0 (by decide) wf_10 rfl fl_X10_19 dX10_written_1 (fun qa_1 tqa_1 => ?_)
  refine lv_iload_n hx hb dX10_written_4 rfl (lv_at hl 1 rfl) ?_
  obtain ⟨_, ra_2⟩ := t_rec t tqa_1 (by decide) wf_12
  refine k_q (r_V C h hl (As := [.int u1]) (rest := []) (s_X0_findN l D G b0 τ f t qa_1 tqa_1 u1 hu1) ra_2 (Cn := RX0) (T := TX0) (N := 6) rfl rfl mk_X0_find w_594 w_595 w_596 w_597 ⟨Nat.le_of_ble_eq_true rfl, Nat.le_of_ble_eq_true rfl⟩ rfl (Nat.le_of_ble_eq_true rfl) ⟨Nat.le_of_ble_eq_true rfl, Nat.le_of_ble_eq_true rfl⟩ rfl dX10_written_5) h (fun ra_3 fa_4 H locs pa_5 h => ?_)
  obtain ⟨qra_3, tfa_4, ogfa_4, ocra_3⟩ := pa_5
  have egfa_4 := Fr.nil2 ogfa_4
  subst egfa_4
  have tra_3 := qra_3
  refine lv_astore_nO (lv' := [(3, va_rf ra_3), (0, .ref u0), (1, .int u1), (2, .int u2)]) hx hb dX10_written_8 rfl hl (by decide) rfl (fun ls hl => ?_)
  refine lv_aload_nO hx hb dX10_written_9 rfl (lv_at hl 0 rfl) ?_
  rcases va_rfc ra_3 with eqa_7 | ⟨qa_7, eqa_7⟩
  · subst eqa_7
    have hl : lv_has ls 4 [(3, .null), (0, .ref u0), (1, .int u1), (2, .int u2)] := hl
    show W _ _ _ _ _ _ _ _ _ _ _ _ _ _ _ (F0 m 10 ls [.null])
    refine lv_ifnonnullN hx hb dX10_written_10 ?_
    refine lv_iconst (v := -1) hx hb dX10_written_13 (by decide) ?_
    exact u_iret C h hr hQ (⟨τ, (Ex.rf τ), ⟨by decide, by decide⟩, t, o, hGJ⟩) (Nat.le_of_ble_eq_true rfl) (Nat.le_of_ble_eq_true rfl) dX10_written_14
  · subst eqa_7
    have tqa_7 : τ qa_7 = 1 := tra_3 _ rfl
    have ia_8 : iv u1 0 7 := ocra_3 _ rfl
    have hl : lv_has ls 4 [(3, .ref qa_7), (0, .ref u0), (1, .int u1), (2, .int u2)] := hl
    show W _ _ _ _ _ _ _ _ _ _ _ _ _ _ _ (F0 m 10 ls [.ref qa_7])
    refine lv_ifnonnull (tgt := 15) hx hb dX10_written_10 (by decide) ?_
    refine lv_aload_n hx hb dX10_written_15 rfl (lv_at hl 1 rfl) ?_
    refine t_getfd C h t hu0 (by decide) wf_10 (v := .ref sb) ksb fl_X10_71 dX10_written_16 ?_
    refine lv_iconst (v := 0) hx hb dX10_written_19 (by decide) ?_
    obtain ⟨_, ra_9⟩ := t_rec t hsb (by decide) wf_52
    refine k_v (r_V C h hl (As := [.int 0]) (rest := []) (s_J4_setLength_d00dfX l D G b0 τ f t sb hsb 0 (iv_w (iv_k (x := 0) (k := 0) rfl) (by decide)) ct0 hct0 kct) ra_9 (Cn := RJ4) (T := TJ4) (N := 4) rfl rfl mk_J4_setLength_d00df w_1100 w_1101 w_1102 w_1103 ⟨Nat.le_of_ble_eq_true rfl, Nat.le_of_ble_eq_true rfl⟩ rfl (Nat.le_of_ble_eq_true rfl) ⟨Nat.le_of_ble_eq_true rfl, Nat.le_of_ble_eq_true rfl⟩ rfl dX10_written_20) h (fun fa_11 H locs pa_12 h => ?_)
    have na_13 : (0 : Int32).toInt = 0 := rfl
    obtain ⟨tfa_11, ogfa_11, x0ra_10, ⟨ct1_fa_11, kpu0_3fa_11, ipu0_3fa_11, rpu0_3fa_11⟩⟩ := pa_12
    have ofa_11 : Fr [0, 52, 53, 52001, 52003, 52004] τ f fa_11 := Fr.tr o ogfa_11 (by decide) (by decide)
    have ka_14 := atp.fr kq2 ogfa_11 hu0 (by decide)
    have ka_15 := GJ.fr hGJ ogfa_11 hgq (by decide)
    have ka_16 := atp.fr ksb ogfa_11 hu0 (by decide)
    refine lv_aload_n hx hb dX10_written_23 rfl (lv_at hl 0 rfl) ?_
    refine lv_aload_n hx hb dX10_written_24 rfl (lv_at hl 1 rfl) ?_
    refine t_getfd C h tfa_11 hu0 (by decide) wf_10 (v := .ref sb) ka_16 fl_X10_71 dX10_written_25 ?_
    obtain ⟨_, ra_17⟩ := t_rec tfa_11 tqa_7 (by decide) wf_1
    refine k_v (r_V C h hl (As := [.ref sb]) (rest := []) (s_X6_writeToX l D G b0 τ fa_11 tfa_11 qa_7 tqa_7 sb hsb ct1_fa_11 ipu0_3fa_11 kpu0_3fa_11 x0ra_10) ra_17 (Cn := RX6) (T := TX6) (N := 4) rfl rfl mk_X6_writeTo w_1150 w_1151 w_1152 w_1153 ⟨Nat.le_of_ble_eq_true rfl, Nat.le_of_ble_eq_true rfl⟩ rfl (Nat.le_of_ble_eq_true rfl) ⟨Nat.le_of_ble_eq_true rfl, Nat.le_of_ble_eq_true rfl⟩ rfl dX10_written_28) h (fun fa_19 H locs pa_20 h => ?_)
    obtain ⟨τfa_19, exfa_19, tfa_19, ogfa_19, ⟨ct1_fa_19, kpu1_3fa_19, ipu1_3fa_19, rpu1_3fa_19⟩, cpfa_19⟩ := pa_20
    have ofa_19 : Fr [0, 52, 53, 52001, 52003, 52004] τ f fa_19 := Fr.tr ofa_11 ogfa_19 (by decide) (by decide)
    have ka_21 := atp.fr ka_14 ogfa_19 hu0 (by decide)
    have ka_22 := GJ.fr ka_15 ogfa_19 hgq (by decide)
    have ka_23 := atp.fr ka_16 ogfa_19 hu0 (by decide)
    have Ofa_19 : Fr [0, 52, 53, 52001, 52003, 52004] τ f fa_19 := ofa_19
    have xfa_19 : Ex τ τfa_19 := exfa_19
    have ha_24 : τfa_19 u0 = 10 := Ex.at exfa_19 hu0 (by decide)
    have ha_25 : τfa_19 qa_7 = 1 := Ex.at exfa_19 tqa_7 (by decide)
    have ha_26 : τfa_19 gq = 20 := Ex.at exfa_19 hgq (by decide)
    have ka_27 := GJ.ex ka_22 exfa_19
    have ha_28 : τfa_19 sb = 52 := Ex.at exfa_19 hsb (by decide)
    have ofa_19z := Fr.rf [0, 52, 53, 52001, 52003, 52004] τfa_19 fa_19
    refine lv_iload_n hx hb dX10_written_31 rfl (lv_at hl 3 rfl) ?_
    refine lv_iconst (v := -1) hx hb dX10_written_32 (by decide) ?_
    refine lv_icmp_ne (tgt := 44) hx hb dX10_written_33 (by decide) (fun ca_29 => ?_) (fun ca_29 => ?_)
    · have ca_30 : u2.toInt ≠ (-1) := fun z_ => ca_29 (Int32.toInt_inj.mp z_)
      refine lv_iload_n hx hb dX10_written_44 rfl (lv_at hl 3 rfl) ?_
      refine lv_iconst (v := 0) hx hb dX10_written_45 (by decide) ?_
      refine lv_aload_n hx hb dX10_written_46 rfl (lv_at hl 1 rfl) ?_
      refine t_getfd C h tfa_19 ha_24 (by decide) wf_10 (v := .ref sb) ka_23 fl_X10_71 dX10_written_47 ?_
      obtain ⟨_, ra_31⟩ := t_rec tfa_19 ha_28 (by decide) wf_52
      refine k_i (r_V C h hl (As := []) (rest := [.int 0, .int u2]) (s_J4_length_8abf5X l D G b0 τfa_19 fa_19 tfa_19 sb ha_28 ct1_fa_19 ipu1_3fa_19 kpu1_3fa_19) ra_31 (Cn := RJ4) (T := TJ4) (N := 4) rfl rfl mk_J4_length_8abf5 w_1274 w_1155 w_1156 w_1157 ⟨Nat.le_of_ble_eq_true rfl, Nat.le_of_ble_eq_true rfl⟩ rfl (Nat.le_of_ble_eq_true rfl) ⟨Nat.le_of_ble_eq_true rfl, Nat.le_of_ble_eq_true rfl⟩ rfl dX10_written_50) h (fun ra_32 fa_33 H locs pa_34 h => ?_)
      obtain ⟨ira_32, tfa_33, ogfa_33, x0ra_32⟩ := pa_34
      have egfa_33 := Fr.nil2 ogfa_33
      subst egfa_33
      refine lv_iconst (v := 1) hx hb dX10_written_53 (by decide) ?_
      refine i_subk hx hb dX10_written_54 ira_32 (k := 1) rfl (lo := (-1)) (hi := 49) (by decide) (fun za_35 eza_35 mza_35 iza_35 => ?_)
      refine k_i (r_S C h hl (As := [.int u2, .int 0, .int za_35]) (rest := []) (s_X10_within l D G b0 τfa_19 fa_19 tfa_19 u2 hu2 0 (iv_w (iv_k (x := 0) (k := 0) rfl) (by decide)) za_35 (iv_w iza_35 (by decide))) mk_X10_within w_425 w_426 w_427 ⟨Nat.le_of_ble_eq_true rfl, Nat.le_of_ble_eq_true rfl⟩ rfl (Nat.le_of_ble_eq_true rfl) ⟨Nat.le_of_ble_eq_true rfl, Nat.le_of_ble_eq_true rfl⟩ rfl dX10_written_55) h (fun ra_36 fa_37 H locs pa_38 h => ?_)
      have na_39 : (0 : Int32).toInt = 0 := rfl
      obtain ⟨ira_36, tfa_37, ogfa_37, cnra_36, czra_36⟩ := pa_38
      have egfa_37 := Fr.nil2 ogfa_37
      subst egfa_37
      refine lv_if_ne (tgt := 63) hx hb dX10_written_58 (by decide) (fun ca_40 => ?_) (fun ca_40 => ?_)
      · have ca_41 : ra_36.toInt ≠ 0 := fun z_ => ca_40 (Int32.toInt_inj.mp z_)
        have ia_42 : iv ra_36 1 1 := iv_Nl ca_41 ira_36 (by decide)
        obtain ⟨ia_43, ia_44⟩ := cnra_36 ca_41
        have ia_45 : iv u2 0 49 := ⟨by omega, by omega⟩
        refine lv_aload_n hx hb dX10_written_63 rfl (lv_at hl 1 rfl) ?_
        refine t_getfd C h tfa_19 ha_24 (by decide) wf_10 (v := .ref sb) ka_23 fl_X10_71 dX10_written_64 ?_
        refine lv_iload_n hx hb dX10_written_67 rfl (lv_at hl 3 rfl) ?_
        obtain ⟨_, ra_46⟩ := t_rec tfa_19 ha_28 (by decide) wf_52
        refine k_i (r_V C h hl (As := [.int u2]) (rest := []) (s_J4_charAt_5068eX l D G b0 τfa_19 fa_19 tfa_19 sb ha_28 u2 ia_45 ct1_fa_19 ipu1_3fa_19 kpu1_3fa_19 cpfa_19 (by omega)) ra_46 (Cn := RJ4) (T := TJ4) (N := 4) rfl rfl mk_J4_charAt_5068e w_1275 w_1276 w_1277 w_1278 ⟨Nat.le_of_ble_eq_true rfl, Nat.le_of_ble_eq_true rfl⟩ rfl (Nat.le_of_ble_eq_true rfl) ⟨Nat.le_of_ble_eq_true rfl, Nat.le_of_ble_eq_true rfl⟩ rfl dX10_written_68) h (fun ra_47 fa_48 H locs pa_49 h => ?_)
        obtain ⟨ira_47, tfa_48, ogfa_48, cpfa_48⟩ := pa_49
        have egfa_48 := Fr.nil2 ogfa_48
        subst egfa_48
        exact u_iret C h hr hQ (⟨τfa_19, xfa_19, (iv_w ira_47 (by decide)), tfa_19, (Fr.tr Ofa_19 (Fr.cv xfa_19 ofa_19z (by decide) (fun _ h_ => h_)) (fun _ h_ => h_) (fun _ h_ => h_)), ka_27⟩) (Nat.le_of_ble_eq_true rfl) (Nat.le_of_ble_eq_true rfl) dX10_written_71
      · have ca_41 : ra_36.toInt = 0 := congrArg Int32.toInt ca_40
        have ia_42 : iv ra_36 0 0 := iv_Q ca_41 ira_36 (iv_k (x := 0) (k := 0) rfl) (by decide)
        have ia_43 := czra_36 ca_41
        refine lv_iconst (v := -1) hx hb dX10_written_61 (by decide) ?_
        exact u_iret C h hr hQ (⟨τfa_19, xfa_19, ⟨by decide, by decide⟩, tfa_19, (Fr.tr Ofa_19 (Fr.cv xfa_19 ofa_19z (by decide) (fun _ h_ => h_)) (fun _ h_ => h_) (fun _ h_ => h_)), ka_27⟩) (Nat.le_of_ble_eq_true rfl) (Nat.le_of_ble_eq_true rfl) dX10_written_62
    · have ca_30 : u2.toInt = (-1) := congrArg Int32.toInt ca_29
      have ia_31 : iv u2 (-1) (-1) := iv_Q ca_30 hu2 (iv_k (x := (-1)) (k := (-1)) rfl) (by decide)
      refine lv_aload_n hx hb dX10_written_36 rfl (lv_at hl 1 rfl) ?_
      refine t_getfd C h tfa_19 ha_24 (by decide) wf_10 (v := .ref sb) ka_23 fl_X10_71 dX10_written_37 ?_
      obtain ⟨_, ra_32⟩ := t_rec tfa_19 ha_28 (by decide) wf_52
      refine k_i (r_V C h hl (As := []) (rest := []) (s_J4_length_8abf5X l D G b0 τfa_19 fa_19 tfa_19 sb ha_28 ct1_fa_19 ipu1_3fa_19 kpu1_3fa_19) ra_32 (Cn := RJ4) (T := TJ4) (N := 4) rfl rfl mk_J4_length_8abf5 w_1274 w_1155 w_1156 w_1157 ⟨Nat.le_of_ble_eq_true rfl, Nat.le_of_ble_eq_true rfl⟩ rfl (Nat.le_of_ble_eq_true rfl) ⟨Nat.le_of_ble_eq_true rfl, Nat.le_of_ble_eq_true rfl⟩ rfl dX10_written_40) h (fun ra_33 fa_34 H locs pa_35 h => ?_)
      obtain ⟨ira_33, tfa_34, ogfa_34, x0ra_33⟩ := pa_35
      have egfa_34 := Fr.nil2 ogfa_34
      subst egfa_34
      exact u_iret C h hr hQ (⟨τfa_19, xfa_19, (iv_w ira_33 (by decide)), tfa_19, (Fr.tr Ofa_19 (Fr.cv xfa_19 ofa_19z (by decide) (fun _ h_ => h_)) (fun _ h_ => h_) (fun _ h_ => h_)), ka_27⟩) (Nat.le_of_ble_eq_true rfl) (Nat.le_of_ble_eq_true rfl) dX10_written_43
