theorem dX6_writeStep_0 : decode cX6_writeStep 0 = .ok (.aload_n 1, 1) := by decide +kernel
theorem dX6_writeStep_1 : decode cX6_writeStep 1 = .ok (.ldc 50, 2) := by decide +kernel
theorem dX6_writeStep_3 : decode cX6_writeStep 3 = .ok (.iconst 2, 1) := by decide +kernel
theorem dX6_writeStep_4 : decode cX6_writeStep 4 = .ok (.iload_n 2, 1) := by decide +kernel
theorem dX6_writeStep_5 : decode cX6_writeStep 5 = .ok (.imul, 1) := by decide +kernel
theorem dX6_writeStep_6 : decode cX6_writeStep 6 = .ok (.invokevirtual 52, 3) := by decide +kernel
theorem w_1201 : Cond.methodLink "QuarterWalks$StepSet" 52 yJ0_charAt_5068e ∈ wAll := wI5 146 (by decide +kernel) (by decide +kernel)
theorem dX6_writeStep_9 : decode cX6_writeStep 9 = .ok (.invokevirtual 34, 3) := by decide +kernel
theorem w_1161 : Cond.methodLink "QuarterWalks$StepSet" 34 yJ4_append_cf468 ∈ wAll := wI5 106 (by decide +kernel) (by decide +kernel)
theorem w_1163 : Cond.selects yJ4_append_cf468.cls yJ4_append_cf468 yJ4_append_cf468 ∈ wAll := wI5 108 (by decide +kernel) (by decide +kernel)
theorem w_107 : Cond.initialized "java/lang/StringBuilder" ∈ wAll := wI1 12 (by decide +kernel) (by decide +kernel)
theorem mk_J4_append_cf468 : mk yJ4_append_cf468 1 := ⟨by decide +kernel, w_107⟩
theorem w_1162 : Cond.instanceMethod yJ4_append_cf468 ∈ wAll := wI5 107 (by decide +kernel) (by decide +kernel)
theorem w_1164 : Cond.code yJ4_append_cf468 cJ4_append_cf468 2 (some (.object "java/lang/StringBuilder")) ∈ wAll := wI5 109 (by decide +kernel) (by decide +kernel)
theorem dX6_writeStep_12 : decode cX6_writeStep 12 = .ok (.pop, 1) := by decide +kernel
theorem dX6_writeStep_13 : decode cX6_writeStep 13 = .ok (.ldc 50, 2) := by decide +kernel
theorem dX6_writeStep_15 : decode cX6_writeStep 15 = .ok (.iconst 2, 1) := by decide +kernel
theorem dX6_writeStep_16 : decode cX6_writeStep 16 = .ok (.iload_n 2, 1) := by decide +kernel
theorem dX6_writeStep_17 : decode cX6_writeStep 17 = .ok (.imul, 1) := by decide +kernel
theorem dX6_writeStep_18 : decode cX6_writeStep 18 = .ok (.iconst 1, 1) := by decide +kernel
theorem dX6_writeStep_19 : decode cX6_writeStep 19 = .ok (.iadd, 1) := by decide +kernel
theorem dX6_writeStep_20 : decode cX6_writeStep 20 = .ok (.invokevirtual 52, 3) := by decide +kernel
theorem dX6_writeStep_23 : decode cX6_writeStep 23 = .ok (.bipush 32, 2) := by decide +kernel
theorem dX6_writeStep_25 : decode cX6_writeStep 25 = .ok (.if_icmp .eq 18, 3) := by decide +kernel
theorem dX6_writeStep_43 : decode cX6_writeStep 43 = .ok (.aload_n 0, 1) := by decide +kernel
theorem dX6_writeStep_44 : decode cX6_writeStep 44 = .ok (.getfield 15, 3) := by decide +kernel
theorem dX6_writeStep_47 : decode cX6_writeStep 47 = .ok (.iload_n 2, 1) := by decide +kernel
theorem dX6_writeStep_48 : decode cX6_writeStep 48 = .ok (.iaload, 1) := by decide +kernel
theorem dX6_writeStep_49 : decode cX6_writeStep 49 = .ok (.iconst 1, 1) := by decide +kernel
theorem dX6_writeStep_50 : decode cX6_writeStep 50 = .ok (.if_icmp .eq 21, 3) := by decide +kernel
theorem dX6_writeStep_53 : decode cX6_writeStep 53 = .ok (.aload_n 1, 1) := by decide +kernel
theorem dX6_writeStep_54 : decode cX6_writeStep 54 = .ok (.bipush 32, 2) := by decide +kernel
theorem dX6_writeStep_56 : decode cX6_writeStep 56 = .ok (.invokevirtual 34, 3) := by decide +kernel
theorem dX6_writeStep_59 : decode cX6_writeStep 59 = .ok (.pop, 1) := by decide +kernel
theorem dX6_writeStep_60 : decode cX6_writeStep 60 = .ok (.aload_n 1, 1) := by decide +kernel
theorem dX6_writeStep_61 : decode cX6_writeStep 61 = .ok (.aload_n 0, 1) := by decide +kernel
theorem dX6_writeStep_62 : decode cX6_writeStep 62 = .ok (.getfield 15, 3) := by decide +kernel
theorem dX6_writeStep_65 : decode cX6_writeStep 65 = .ok (.iload_n 2, 1) := by decide +kernel
theorem dX6_writeStep_66 : decode cX6_writeStep 66 = .ok (.iaload, 1) := by decide +kernel
theorem dX6_writeStep_67 : decode cX6_writeStep 67 = .ok (.invokevirtual 47, 3) := by decide +kernel
theorem w_1202 : Cond.methodLink "QuarterWalks$StepSet" 47 yJ4_append_bf812 ∈ wAll := wI5 147 (by decide +kernel) (by decide +kernel)
theorem w_1204 : Cond.selects yJ4_append_bf812.cls yJ4_append_bf812 yJ4_append_bf812 ∈ wAll := wI5 149 (by decide +kernel) (by decide +kernel)
theorem mk_J4_append_bf812 : mk yJ4_append_bf812 1 := ⟨by decide +kernel, w_107⟩
theorem w_1203 : Cond.instanceMethod yJ4_append_bf812 ∈ wAll := wI5 148 (by decide +kernel) (by decide +kernel)
theorem w_1205 : Cond.code yJ4_append_bf812 cJ4_append_bf812 2 (some (.object "java/lang/StringBuilder")) ∈ wAll := wI5 150 (by decide +kernel) (by decide +kernel)
theorem dX6_writeStep_70 : decode cX6_writeStep 70 = .ok (.pop, 1) := by decide +kernel
theorem dX6_writeStep_28 : decode cX6_writeStep 28 = .ok (.aload_n 1, 1) := by decide +kernel
theorem dX6_writeStep_29 : decode cX6_writeStep 29 = .ok (.ldc 50, 2) := by decide +kernel
theorem dX6_writeStep_31 : decode cX6_writeStep 31 = .ok (.iconst 2, 1) := by decide +kernel
theorem dX6_writeStep_32 : decode cX6_writeStep 32 = .ok (.iload_n 2, 1) := by decide +kernel
theorem dX6_writeStep_33 : decode cX6_writeStep 33 = .ok (.imul, 1) := by decide +kernel
theorem dX6_writeStep_34 : decode cX6_writeStep 34 = .ok (.iconst 1, 1) := by decide +kernel
theorem dX6_writeStep_35 : decode cX6_writeStep 35 = .ok (.iadd, 1) := by decide +kernel
theorem dX6_writeStep_36 : decode cX6_writeStep 36 = .ok (.invokevirtual 52, 3) := by decide +kernel
theorem dX6_writeStep_39 : decode cX6_writeStep 39 = .ok (.invokevirtual 34, 3) := by decide +kernel
theorem dX6_writeStep_42 : decode cX6_writeStep 42 = .ok (.pop, 1) := by decide +kernel
theorem dX6_writeStep_71 : decode cX6_writeStep 71 = .ok (.return_, 1) := by decide +kernel
theorem dX6_writeTo_0 : decode cX6_writeTo 0 = .ok (.iconst 0, 1) := by decide +kernel
theorem dX6_writeTo_1 : decode cX6_writeTo 1 = .ok (.istore_n 2, 1) := by decide +kernel
theorem dX6_writeTo_2 : decode cX6_writeTo 2 = .ok (.iload_n 2, 1) := by decide +kernel
theorem dX6_writeTo_3 : decode cX6_writeTo 3 = .ok (.bipush 8, 2) := by decide +kernel
theorem dX6_writeTo_5 : decode cX6_writeTo 5 = .ok (.if_icmp .ge 38, 3) := by decide +kernel
theorem dX6_writeTo_8 : decode cX6_writeTo 8 = .ok (.aload_n 0, 1) := by decide +kernel
theorem dX6_writeTo_9 : decode cX6_writeTo 9 = .ok (.getfield 15, 3) := by decide +kernel
theorem dX6_writeTo_12 : decode cX6_writeTo 12 = .ok (.iload_n 2, 1) := by decide +kernel
theorem dX6_writeTo_13 : decode cX6_writeTo 13 = .ok (.iaload, 1) := by decide +kernel
theorem dX6_writeTo_14 : decode cX6_writeTo 14 = .ok (.ifCond .eq 23, 3) := by decide +kernel
theorem dX6_writeTo_37 : decode cX6_writeTo 37 = .ok (.iinc 2 1, 3) := by decide +kernel
theorem dX6_writeTo_40 : decode cX6_writeTo 40 = .ok (.goto (-38), 3) := by decide +kernel
theorem dX6_writeTo_17 : decode cX6_writeTo 17 = .ok (.aload_n 1, 1) := by decide +kernel
theorem dX6_writeTo_18 : decode cX6_writeTo 18 = .ok (.invokevirtual 28, 3) := by decide +kernel
theorem w_1154 : Cond.methodLink "QuarterWalks$StepSet" 28 yJ4_length_8abf5 ∈ wAll := wI5 99 (by decide +kernel) (by decide +kernel)
theorem w_1156 : Cond.selects yJ4_length_8abf5.cls yJ4_length_8abf5 yJ4_length_8abf5 ∈ wAll := wI5 101 (by decide +kernel) (by decide +kernel)
theorem mk_J4_length_8abf5 : mk yJ4_length_8abf5 0 := ⟨by decide +kernel, w_107⟩
theorem w_1155 : Cond.instanceMethod yJ4_length_8abf5 ∈ wAll := wI5 100 (by decide +kernel) (by decide +kernel)
theorem w_1157 : Cond.code yJ4_length_8abf5 cJ4_length_8abf5 1 (some .int) ∈ wAll := wI5 102 (by decide +kernel) (by decide +kernel)
theorem dX6_writeTo_21 : decode cX6_writeTo 21 = .ok (.ifCond .le 10, 3) := by decide +kernel
theorem dX6_writeTo_31 : decode cX6_writeTo 31 = .ok (.aload_n 0, 1) := by decide +kernel
theorem dX6_writeTo_32 : decode cX6_writeTo 32 = .ok (.aload_n 1, 1) := by decide +kernel
theorem dX6_writeTo_33 : decode cX6_writeTo 33 = .ok (.iload_n 2, 1) := by decide +kernel
theorem dX6_writeTo_34 : decode cX6_writeTo 34 = .ok (.invokevirtual 38, 3) := by decide +kernel
theorem w_1196 : Cond.methodLink "QuarterWalks$StepSet" 38 yX6_writeStep ∈ wAll := wI5 141 (by decide +kernel) (by decide +kernel)
theorem w_31 : Cond.selects yX6_writeStep.cls yX6_writeStep yX6_writeStep ∈ wAll := wIn 31 (by decide +kernel) (by decide +kernel)
theorem mk_X6_writeStep : mk yX6_writeStep 2 := ⟨by decide +kernel, w_115⟩
theorem w_1198 : Cond.instanceMethod yX6_writeStep ∈ wAll := wI5 143 (by decide +kernel) (by decide +kernel)
theorem w_1199 : Cond.code yX6_writeStep cX6_writeStep 3 none ∈ wAll := wI5 144 (by decide +kernel) (by decide +kernel)
theorem dX6_writeTo_24 : decode cX6_writeTo 24 = .ok (.aload_n 1, 1) := by decide +kernel
theorem dX6_writeTo_25 : decode cX6_writeTo 25 = .ok (.bipush 32, 2) := by decide +kernel
theorem dX6_writeTo_27 : decode cX6_writeTo 27 = .ok (.invokevirtual 34, 3) := by decide +kernel
theorem dX6_writeTo_30 : decode cX6_writeTo 30 = .ok (.pop, 1) := by decide +kernel
theorem dX6_writeTo_43 : decode cX6_writeTo 43 = .ok (.aload_n 0, 1) := by decide +kernel
theorem dX6_writeTo_44 : decode cX6_writeTo 44 = .ok (.getfield 21, 3) := by decide +kernel
theorem dX6_writeTo_47 : decode cX6_writeTo 47 = .ok (.ifCond .ne 10, 3) := by decide +kernel
theorem dX6_writeTo_57 : decode cX6_writeTo 57 = .ok (.aload_n 1, 1) := by decide +kernel
theorem dX6_writeTo_58 : decode cX6_writeTo 58 = .ok (.ldc 42, 2) := by decide +kernel
theorem dX6_writeTo_60 : decode cX6_writeTo 60 = .ok (.invokevirtual 44, 3) := by decide +kernel
theorem w_1237 : Cond.methodLink "QuarterWalks$StepSet" 44 yJ4_append_15ec4 ∈ wAll := wI5 182 (by decide +kernel) (by decide +kernel)
theorem w_1239 : Cond.selects yJ4_append_15ec4.cls yJ4_append_15ec4 yJ4_append_15ec4 ∈ wAll := wI5 184 (by decide +kernel) (by decide +kernel)
theorem mk_J4_append_15ec4 : mk yJ4_append_15ec4 1 := ⟨by decide +kernel, w_107⟩
theorem w_1238 : Cond.instanceMethod yJ4_append_15ec4 ∈ wAll := wI5 183 (by decide +kernel) (by decide +kernel)
theorem w_1240 : Cond.code yJ4_append_15ec4 cJ4_append_15ec4 2 (some (.object "java/lang/StringBuilder")) ∈ wAll := wI5 185 (by decide +kernel) (by decide +kernel)
theorem dX6_writeTo_63 : decode cX6_writeTo 63 = .ok (.pop, 1) := by decide +kernel
theorem dX6_writeTo_64 : decode cX6_writeTo 64 = .ok (.aload_n 1, 1) := by decide +kernel
theorem dX6_writeTo_65 : decode cX6_writeTo 65 = .ok (.aload_n 0, 1) := by decide +kernel
theorem dX6_writeTo_66 : decode cX6_writeTo 66 = .ok (.getfield 21, 3) := by decide +kernel
theorem dX6_writeTo_69 : decode cX6_writeTo 69 = .ok (.invokevirtual 47, 3) := by decide +kernel
theorem dX6_writeTo_72 : decode cX6_writeTo 72 = .ok (.pop, 1) := by decide +kernel
theorem dX6_writeTo_73 : decode cX6_writeTo 73 = .ok (.aload_n 1, 1) := by decide +kernel
theorem dX6_writeTo_74 : decode cX6_writeTo 74 = .ok (.bipush 32, 2) := by decide +kernel
theorem dX6_writeTo_76 : decode cX6_writeTo 76 = .ok (.invokevirtual 34, 3) := by decide +kernel
theorem dX6_writeTo_79 : decode cX6_writeTo 79 = .ok (.pop, 1) := by decide +kernel
theorem dX6_writeTo_80 : decode cX6_writeTo 80 = .ok (.aload_n 1, 1) := by decide +kernel
theorem dX6_writeTo_81 : decode cX6_writeTo 81 = .ok (.aload_n 0, 1) := by decide +kernel
theorem dX6_writeTo_82 : decode cX6_writeTo 82 = .ok (.getfield 25, 3) := by decide +kernel
theorem dX6_writeTo_85 : decode cX6_writeTo 85 = .ok (.invokevirtual 47, 3) := by decide +kernel
theorem dX6_writeTo_88 : decode cX6_writeTo 88 = .ok (.pop, 1) := by decide +kernel
theorem dX6_writeTo_50 : decode cX6_writeTo 50 = .ok (.aload_n 0, 1) := by decide +kernel
theorem dX6_writeTo_51 : decode cX6_writeTo 51 = .ok (.getfield 25, 3) := by decide +kernel
theorem dX6_writeTo_54 : decode cX6_writeTo 54 = .ok (.ifCond .eq 35, 3) := by decide +kernel
theorem dX6_writeTo_89 : decode cX6_writeTo 89 = .ok (.return_, 1) := by decide +kernel
abbrev rm_s_X6_writeStepX : Room := { frames := 6, cells := 4, slots := 400, locals := 148 }
set_option maxRecDepth 100000 in
set_option maxHeartbeats 4000000 in
theorem s_X6_writeStepX (l : Launch) (D : va_G) (G : Nat → Nat) (b0 : Nat) (τ : Nat → Nat) (f : hM) (t : TI G 9 τ f) (u0 : Nat) (hu0 : τ u0 = 1) (u1 : Nat) (hu1 : τ u1 = 52) (u2 : Int32) (hu2 : iv u2 0 7) (ct : Int32) (hct : iv ct 0 40) (k_u1_3 : atp f u1 (fd 3 (.int ct))) (hCP : CPs G τ f u1) : mV l yX6_writeStep cX6_writeStep 3 rm_s_X6_writeStepX D G b0 f [.ref u0, .ref u1, .int u2] (fun f1 => (∃ τ1, Ex τ τ1 ∧ TI G 9 τ1 f1 ∧ Fr [0, 52, 53, 52001, 52004] τ f f1 ∧ (∃ ct1 : Int32, atp f1 u1 (fd 3 (.int ct1)) ∧ iv ct1 0 44 ∧ ct1.toInt ≤ ct.toInt + 4) ∧ CPs G τ1 f1 u1)) := by
  refine met2 (own := RX6) (by decide) rfl (Nat.le_of_ble_eq_true rfl) ?_
  intro p e s m args below meth c ls Q hQ C hr hini hl h
  have hl : lv_has ls 3 [(0, .ref u0), (1, .ref u1), (2, .int u2)] := hl
  obtain ⟨hx, hb, hml, hown, hts, hE0, hlk⟩ := id C
  have o := Fr.rf [0, 52, 53, 52001, 52004] τ f
  refine lv_aload_n hx hb dX6_writeStep_0 rfl (lv_at hl 1 rfl) ?_
  refine va_ldcS hx hb hown (hE0.2.2.2.2.2.2.2.2.1 ("QuarterWalks$StepSet", 50, "n nee ses sww nw", 11) (by decide)) dX6_writeStep_1 ?_
  refine lv_iconst (v := 2) hx hb dX6_writeStep_3 (by decide) ?_
  refine lv_iload_n hx hb dX6_writeStep_4 rfl (lv_at hl 2 rfl) ?_
  refine i_cmul hx hb dX6_writeStep_5 (k := 2) rfl hu2 (lo := 0) (hi := 14) (by decide) (fun za_1 eza_1 mza_1 iza_1 => ?_)
  have hrv := vk_recv hE0.2.2.2.2.2.2.2.2.2.1 (i := 11) (by decide) h.2.2.1
  refine k_i (r_VK C h hl (As := [.int za_1]) (rest := [.ref u1]) (c_charAt l D G b0 f 11 (by decide) za_1 (have n_ : (nI (str_len.getD 11 0)).toInt = 16 := (by decide); by omega) (ix_o (n := 16) (by omega))) hrv mk_J0_charAt_5068e w_1201 w_473 w_474 w_475 ⟨(Nat.le_of_ble_eq_true rfl), (Nat.le_of_ble_eq_true rfl)⟩ rfl (Nat.le_of_ble_eq_true rfl) ⟨(Nat.le_of_ble_eq_true rfl), (Nat.le_of_ble_eq_true rfl)⟩ rfl dX6_writeStep_6) h (fun ra_2 fa_3 H locs pa_4 h => ?_)
  obtain ⟨era_2, rfl⟩ := pa_4
  have ira_2 : iv ra_2 0 255 := by rw [era_2]; exact sch_iv _ _
  obtain ⟨_, ra_5⟩ := t_rec t hu1 (by decide) wf_52
  refine k_q (r_V C h hl (As := [.int ra_2]) (rest := []) (s_J4_append_cf468X l D G b0 τ f t u1 hu1 ra_2 ira_2 ct (iv_w hct (by decide)) k_u1_3 hCP) ra_5 (Cn := RJ4) (T := TJ4) (N := 4) rfl rfl mk_J4_append_cf468 w_1161 w_1162 w_1163 w_1164 ⟨Nat.le_of_ble_eq_true rfl, Nat.le_of_ble_eq_true rfl⟩ rfl (Nat.le_of_ble_eq_true rfl) ⟨Nat.le_of_ble_eq_true rfl, Nat.le_of_ble_eq_true rfl⟩ rfl dX6_writeStep_9) h (fun ra_6 fa_7 H locs pa_8 h => ?_)
  obtain ⟨τfa_7, exfa_7, qra_6, tfa_7, ogfa_7, ⟨ct1_fa_7, kpu0_3fa_7, ipu0_3fa_7, rpu0_3fa_7⟩, cpfa_7⟩ := pa_8
  have ofa_7 : Fr [0, 52, 53, 52001, 52004] τ f fa_7 := Fr.tr o ogfa_7 (by decide) (by decide)
  have Ofa_7 : Fr [0, 52, 53, 52001, 52004] τ f fa_7 := ofa_7
  have xfa_7 : Ex τ τfa_7 := exfa_7
  have ha_9 : τfa_7 u0 = 1 := Ex.at exfa_7 hu0 (by decide)
  have ha_10 : τfa_7 u1 = 52 := Ex.at exfa_7 hu1 (by decide)
  have ofa_7z := Fr.rf [0, 52, 53, 52001, 52004] τfa_7 fa_7
  obtain ⟨qa_11, rfl, tqa_11⟩ := qra_6
  refine lv_pop hx hb dX6_writeStep_12 rfl ?_
  refine va_ldcS hx hb hown (hE0.2.2.2.2.2.2.2.2.1 ("QuarterWalks$StepSet", 50, "n nee ses sww nw", 11) (by decide)) dX6_writeStep_13 ?_
  refine lv_iconst (v := 2) hx hb dX6_writeStep_15 (by decide) ?_
  refine lv_iload_n hx hb dX6_writeStep_16 rfl (lv_at hl 2 rfl) ?_
  refine i_cmul hx hb dX6_writeStep_17 (k := 2) rfl hu2 (lo := 0) (hi := 14) (by decide) (fun za_12 eza_12 mza_12 iza_12 => ?_)
  refine lv_iconst (v := 1) hx hb dX6_writeStep_18 (by decide) ?_
  refine i_addk hx hb dX6_writeStep_19 iza_12 (k := 1) rfl (lo := 1) (hi := 15) (by decide) (fun za_13 eza_13 mza_13 iza_13 => ?_)
  have hrv := vk_recv hE0.2.2.2.2.2.2.2.2.2.1 (i := 11) (by decide) h.2.2.1
  refine k_i (r_VK C h hl (As := [.int za_13]) (rest := []) (c_charAt l D G b0 fa_7 11 (by decide) za_13 (have n_ : (nI (str_len.getD 11 0)).toInt = 16 := (by decide); by omega) (ix_o (n := 16) (by omega))) hrv mk_J0_charAt_5068e w_1201 w_473 w_474 w_475 ⟨(Nat.le_of_ble_eq_true rfl), (Nat.le_of_ble_eq_true rfl)⟩ rfl (Nat.le_of_ble_eq_true rfl) ⟨(Nat.le_of_ble_eq_true rfl), (Nat.le_of_ble_eq_true rfl)⟩ rfl dX6_writeStep_20) h (fun ra_14 fa_15 H locs pa_16 h => ?_)
  obtain ⟨era_14, rfl⟩ := pa_16
  have ira_14 : iv ra_14 0 255 := by rw [era_14]; exact sch_iv _ _
  refine lv_bipush (v := 32) hx hb dX6_writeStep_23 (by decide) ?_
  refine lv_icmp_eq (tgt := 43) hx hb dX6_writeStep_25 (by decide) (fun ca_17 => ?_) (fun ca_17 => ?_)
  · have ca_18 : ra_14.toInt = 32 := congrArg Int32.toInt ca_17
    have ia_19 : iv ra_14 32 32 := iv_Q ca_18 ira_14 (iv_k (x := 32) (k := 32) rfl) (by decide)
    refine lv_aload_n hx hb dX6_writeStep_43 rfl (lv_at hl 0 rfl) ?_
    refine t_getr (tq := 2) C h tfa_7 ha_9 (by decide) wf_1 rfl fl_X6_15 dX6_writeStep_44 (fun qa_20 tqa_20 => ?_)
    refine lv_iload_n hx hb dX6_writeStep_47 rfl (lv_at hl 2 rfl) ?_
    refine t_iald C h tfa_7 tqa_20 (by decide) wf_2 (iv_in hu2 (by decide)) dX6_writeStep_48 (fun za_21 iza_21 => ?_)
    refine lv_iconst (v := 1) hx hb dX6_writeStep_49 (by decide) ?_
    refine lv_icmp_eq (tgt := 71) hx hb dX6_writeStep_50 (by decide) (fun ca_22 => ?_) (fun ca_22 => ?_)
    · have ca_23 : za_21.toInt = 1 := congrArg Int32.toInt ca_22
      have ia_24 : iv za_21 1 1 := iv_Q ca_23 iza_21 (iv_k (x := 1) (k := 1) rfl) (by decide)
      exact u_vret C h hr hQ (⟨τfa_7, xfa_7, tfa_7, (Fr.tr Ofa_7 (Fr.cv xfa_7 ofa_7z (by decide) (fun _ h_ => h_)) (fun _ h_ => h_) (fun _ h_ => h_)), ⟨ct1_fa_7, kpu0_3fa_7, (show iv ct1_fa_7 0 44 from by omega), (by omega)⟩, cpfa_7⟩) (Nat.le_of_ble_eq_true rfl) (Nat.le_of_ble_eq_true rfl) dX6_writeStep_71
    · have ca_23 : za_21.toInt ≠ 1 := fun z_ => ca_22 (Int32.toInt_inj.mp z_)
      refine lv_aload_n hx hb dX6_writeStep_53 rfl (lv_at hl 1 rfl) ?_
      refine lv_bipush (v := 32) hx hb dX6_writeStep_54 (by decide) ?_
      obtain ⟨_, ra_24⟩ := t_rec tfa_7 ha_10 (by decide) wf_52
      refine k_q (r_V C h hl (As := [.int 32]) (rest := []) (s_J4_append_cf468X l D G b0 τfa_7 fa_7 tfa_7 u1 ha_10 32 (iv_w (iv_k (x := 32) (k := 32) rfl) (by decide)) ct1_fa_7 (show iv ct1_fa_7 0 49 from by omega) kpu0_3fa_7 cpfa_7) ra_24 (Cn := RJ4) (T := TJ4) (N := 4) rfl rfl mk_J4_append_cf468 w_1161 w_1162 w_1163 w_1164 ⟨Nat.le_of_ble_eq_true rfl, Nat.le_of_ble_eq_true rfl⟩ rfl (Nat.le_of_ble_eq_true rfl) ⟨Nat.le_of_ble_eq_true rfl, Nat.le_of_ble_eq_true rfl⟩ rfl dX6_writeStep_56) h (fun ra_25 fa_26 H locs pa_27 h => ?_)
      have na_28 : (32 : Int32).toInt = 32 := rfl
      obtain ⟨τfa_26, exfa_26, qra_25, tfa_26, ogfa_26, ⟨ct1_fa_26, kpu0_3fa_26, ipu0_3fa_26, rpu0_3fa_26⟩, cpfa_26⟩ := pa_27
      have ofa_26 : Fr [0, 52, 53, 52001, 52004] τfa_7 fa_7 fa_26 := Fr.tr ofa_7z ogfa_26 (by decide) (by decide)
      have Ofa_26 : Fr [0, 52, 53, 52001, 52004] τ f fa_26 := Fr.tr Ofa_7 (Fr.cv xfa_7 ofa_26 (by decide) (fun _ h_ => h_)) (fun _ h_ => h_) (fun _ h_ => h_)
      have xfa_26 : Ex τ τfa_26 := Ex.tr xfa_7 exfa_26
      have ha_29 : τfa_26 u0 = 1 := Ex.at exfa_26 ha_9 (by decide)
      have ha_30 : τfa_26 u1 = 52 := Ex.at exfa_26 ha_10 (by decide)
      have ofa_26z := Fr.rf [0, 52, 53, 52001, 52004] τfa_26 fa_26
      obtain ⟨qa_31, rfl, tqa_31⟩ := qra_25
      refine lv_pop hx hb dX6_writeStep_59 rfl ?_
      refine lv_aload_n hx hb dX6_writeStep_60 rfl (lv_at hl 1 rfl) ?_
      refine lv_aload_n hx hb dX6_writeStep_61 rfl (lv_at hl 0 rfl) ?_
      refine t_getr (tq := 2) C h tfa_26 ha_29 (by decide) wf_1 rfl fl_X6_15 dX6_writeStep_62 (fun qa_32 tqa_32 => ?_)
      refine lv_iload_n hx hb dX6_writeStep_65 rfl (lv_at hl 2 rfl) ?_
      refine t_iald C h tfa_26 tqa_32 (by decide) wf_2 (iv_in hu2 (by decide)) dX6_writeStep_66 (fun za_33 iza_33 => ?_)
      obtain ⟨_, ra_34⟩ := t_rec tfa_26 ha_30 (by decide) wf_52
      refine k_q (r_V C h hl (As := [.int za_33]) (rest := []) (s_J4_append_bf812X l D G b0 τfa_26 fa_26 tfa_26 u1 ha_30 za_33 iza_33 ct1_fa_26 (show iv ct1_fa_26 0 49 from by omega) kpu0_3fa_26 cpfa_26) ra_34 (Cn := RJ4) (T := TJ4) (N := 4) rfl rfl mk_J4_append_bf812 w_1202 w_1203 w_1204 w_1205 ⟨Nat.le_of_ble_eq_true rfl, Nat.le_of_ble_eq_true rfl⟩ rfl (Nat.le_of_ble_eq_true rfl) ⟨Nat.le_of_ble_eq_true rfl, Nat.le_of_ble_eq_true rfl⟩ rfl dX6_writeStep_67) h (fun ra_35 fa_36 H locs pa_37 h => ?_)
      obtain ⟨τfa_36, exfa_36, qra_35, tfa_36, ogfa_36, ⟨ct1_fa_36, kpu0_3fa_36, ipu0_3fa_36, rpu0_3fa_36⟩, cpfa_36⟩ := pa_37
      have ofa_36 : Fr [0, 52, 53, 52001, 52004] τfa_26 fa_26 fa_36 := Fr.tr ofa_26z ogfa_36 (by decide) (by decide)
      have Ofa_36 : Fr [0, 52, 53, 52001, 52004] τ f fa_36 := Fr.tr Ofa_26 (Fr.cv xfa_26 ofa_36 (by decide) (fun _ h_ => h_)) (fun _ h_ => h_) (fun _ h_ => h_)
      have xfa_36 : Ex τ τfa_36 := Ex.tr xfa_26 exfa_36
      have ha_38 : τfa_36 u0 = 1 := Ex.at exfa_36 ha_29 (by decide)
      have ha_39 : τfa_36 u1 = 52 := Ex.at exfa_36 ha_30 (by decide)
      have ofa_36z := Fr.rf [0, 52, 53, 52001, 52004] τfa_36 fa_36
      obtain ⟨qa_40, rfl, tqa_40⟩ := qra_35
      refine lv_pop hx hb dX6_writeStep_70 rfl ?_
      exact u_vret C h hr hQ (⟨τfa_36, xfa_36, tfa_36, (Fr.tr Ofa_36 (Fr.cv xfa_36 ofa_36z (by decide) (fun _ h_ => h_)) (fun _ h_ => h_) (fun _ h_ => h_)), ⟨ct1_fa_36, kpu0_3fa_36, (show iv ct1_fa_36 0 44 from by omega), (by omega)⟩, cpfa_36⟩) (Nat.le_of_ble_eq_true rfl) (Nat.le_of_ble_eq_true rfl) dX6_writeStep_71
  · have ca_18 : ra_14.toInt ≠ 32 := fun z_ => ca_17 (Int32.toInt_inj.mp z_)
    refine lv_aload_n hx hb dX6_writeStep_28 rfl (lv_at hl 1 rfl) ?_
    refine va_ldcS hx hb hown (hE0.2.2.2.2.2.2.2.2.1 ("QuarterWalks$StepSet", 50, "n nee ses sww nw", 11) (by decide)) dX6_writeStep_29 ?_
    refine lv_iconst (v := 2) hx hb dX6_writeStep_31 (by decide) ?_
    refine lv_iload_n hx hb dX6_writeStep_32 rfl (lv_at hl 2 rfl) ?_
    refine i_cmul hx hb dX6_writeStep_33 (k := 2) rfl hu2 (lo := 0) (hi := 14) (by decide) (fun za_19 eza_19 mza_19 iza_19 => ?_)
    refine lv_iconst (v := 1) hx hb dX6_writeStep_34 (by decide) ?_
    refine i_addk hx hb dX6_writeStep_35 iza_19 (k := 1) rfl (lo := 1) (hi := 15) (by decide) (fun za_20 eza_20 mza_20 iza_20 => ?_)
    have hrv := vk_recv hE0.2.2.2.2.2.2.2.2.2.1 (i := 11) (by decide) h.2.2.1
    refine k_i (r_VK C h hl (As := [.int za_20]) (rest := [.ref u1]) (c_charAt l D G b0 fa_7 11 (by decide) za_20 (have n_ : (nI (str_len.getD 11 0)).toInt = 16 := (by decide); by omega) (ix_o (n := 16) (by omega))) hrv mk_J0_charAt_5068e w_1201 w_473 w_474 w_475 ⟨(Nat.le_of_ble_eq_true rfl), (Nat.le_of_ble_eq_true rfl)⟩ rfl (Nat.le_of_ble_eq_true rfl) ⟨(Nat.le_of_ble_eq_true rfl), (Nat.le_of_ble_eq_true rfl)⟩ rfl dX6_writeStep_36) h (fun ra_21 fa_22 H locs pa_23 h => ?_)
    obtain ⟨era_21, rfl⟩ := pa_23
    have ira_21 : iv ra_21 0 255 := by rw [era_21]; exact sch_iv _ _
    obtain ⟨_, ra_24⟩ := t_rec tfa_7 ha_10 (by decide) wf_52
    refine k_q (r_V C h hl (As := [.int ra_21]) (rest := []) (s_J4_append_cf468X l D G b0 τfa_7 fa_7 tfa_7 u1 ha_10 ra_21 ira_21 ct1_fa_7 (show iv ct1_fa_7 0 49 from by omega) kpu0_3fa_7 cpfa_7) ra_24 (Cn := RJ4) (T := TJ4) (N := 4) rfl rfl mk_J4_append_cf468 w_1161 w_1162 w_1163 w_1164 ⟨Nat.le_of_ble_eq_true rfl, Nat.le_of_ble_eq_true rfl⟩ rfl (Nat.le_of_ble_eq_true rfl) ⟨Nat.le_of_ble_eq_true rfl, Nat.le_of_ble_eq_true rfl⟩ rfl dX6_writeStep_39) h (fun ra_25 fa_26 H locs pa_27 h => ?_)
    obtain ⟨τfa_26, exfa_26, qra_25, tfa_26, ogfa_26, ⟨ct1_fa_26, kpu0_3fa_26, ipu0_3fa_26, rpu0_3fa_26⟩, cpfa_26⟩ := pa_27
    have ofa_26 : Fr [0, 52, 53, 52001, 52004] τfa_7 fa_7 fa_26 := Fr.tr ofa_7z ogfa_26 (by decide) (by decide)
    have Ofa_26 : Fr [0, 52, 53, 52001, 52004] τ f fa_26 := Fr.tr Ofa_7 (Fr.cv xfa_7 ofa_26 (by decide) (fun _ h_ => h_)) (fun _ h_ => h_) (fun _ h_ => h_)
    have xfa_26 : Ex τ τfa_26 := Ex.tr xfa_7 exfa_26
    have ha_28 : τfa_26 u0 = 1 := Ex.at exfa_26 ha_9 (by decide)
    have ha_29 : τfa_26 u1 = 52 := Ex.at exfa_26 ha_10 (by decide)
    have ofa_26z := Fr.rf [0, 52, 53, 52001, 52004] τfa_26 fa_26
    obtain ⟨qa_30, rfl, tqa_30⟩ := qra_25
    refine lv_pop hx hb dX6_writeStep_42 rfl ?_
    refine lv_aload_n hx hb dX6_writeStep_43 rfl (lv_at hl 0 rfl) ?_
    refine t_getr (tq := 2) C h tfa_26 ha_28 (by decide) wf_1 rfl fl_X6_15 dX6_writeStep_44 (fun qa_31 tqa_31 => ?_)
    refine lv_iload_n hx hb dX6_writeStep_47 rfl (lv_at hl 2 rfl) ?_
    refine t_iald C h tfa_26 tqa_31 (by decide) wf_2 (iv_in hu2 (by decide)) dX6_writeStep_48 (fun za_32 iza_32 => ?_)
    refine lv_iconst (v := 1) hx hb dX6_writeStep_49 (by decide) ?_
    refine lv_icmp_eq (tgt := 71) hx hb dX6_writeStep_50 (by decide) (fun ca_33 => ?_) (fun ca_33 => ?_)
    · have ca_34 : za_32.toInt = 1 := congrArg Int32.toInt ca_33
      have ia_35 : iv za_32 1 1 := iv_Q ca_34 iza_32 (iv_k (x := 1) (k := 1) rfl) (by decide)
      exact u_vret C h hr hQ (⟨τfa_26, xfa_26, tfa_26, (Fr.tr Ofa_26 (Fr.cv xfa_26 ofa_26z (by decide) (fun _ h_ => h_)) (fun _ h_ => h_) (fun _ h_ => h_)), ⟨ct1_fa_26, kpu0_3fa_26, (show iv ct1_fa_26 0 44 from by omega), (by omega)⟩, cpfa_26⟩) (Nat.le_of_ble_eq_true rfl) (Nat.le_of_ble_eq_true rfl) dX6_writeStep_71
    · have ca_34 : za_32.toInt ≠ 1 := fun z_ => ca_33 (Int32.toInt_inj.mp z_)
      refine lv_aload_n hx hb dX6_writeStep_53 rfl (lv_at hl 1 rfl) ?_
      refine lv_bipush (v := 32) hx hb dX6_writeStep_54 (by decide) ?_
      obtain ⟨_, ra_35⟩ := t_rec tfa_26 ha_29 (by decide) wf_52
      refine k_q (r_V C h hl (As := [.int 32]) (rest := []) (s_J4_append_cf468X l D G b0 τfa_26 fa_26 tfa_26 u1 ha_29 32 (iv_w (iv_k (x := 32) (k := 32) rfl) (by decide)) ct1_fa_26 (show iv ct1_fa_26 0 49 from by omega) kpu0_3fa_26 cpfa_26) ra_35 (Cn := RJ4) (T := TJ4) (N := 4) rfl rfl mk_J4_append_cf468 w_1161 w_1162 w_1163 w_1164 ⟨Nat.le_of_ble_eq_true rfl, Nat.le_of_ble_eq_true rfl⟩ rfl (Nat.le_of_ble_eq_true rfl) ⟨Nat.le_of_ble_eq_true rfl, Nat.le_of_ble_eq_true rfl⟩ rfl dX6_writeStep_56) h (fun ra_36 fa_37 H locs pa_38 h => ?_)
      have na_39 : (32 : Int32).toInt = 32 := rfl
      obtain ⟨τfa_37, exfa_37, qra_36, tfa_37, ogfa_37, ⟨ct1_fa_37, kpu0_3fa_37, ipu0_3fa_37, rpu0_3fa_37⟩, cpfa_37⟩ := pa_38
      have ofa_37 : Fr [0, 52, 53, 52001, 52004] τfa_26 fa_26 fa_37 := Fr.tr ofa_26z ogfa_37 (by decide) (by decide)
      have Ofa_37 : Fr [0, 52, 53, 52001, 52004] τ f fa_37 := Fr.tr Ofa_26 (Fr.cv xfa_26 ofa_37 (by decide) (fun _ h_ => h_)) (fun _ h_ => h_) (fun _ h_ => h_)
      have xfa_37 : Ex τ τfa_37 := Ex.tr xfa_26 exfa_37
      have ha_40 : τfa_37 u0 = 1 := Ex.at exfa_37 ha_28 (by decide)
      have ha_41 : τfa_37 u1 = 52 := Ex.at exfa_37 ha_29 (by decide)
      have ofa_37z := Fr.rf [0, 52, 53, 52001, 52004] τfa_37 fa_37
      obtain ⟨qa_42, rfl, tqa_42⟩ := qra_36
      refine lv_pop hx hb dX6_writeStep_59 rfl ?_
      refine lv_aload_n hx hb dX6_writeStep_60 rfl (lv_at hl 1 rfl) ?_
      refine lv_aload_n hx hb dX6_writeStep_61 rfl (lv_at hl 0 rfl) ?_
      refine t_getr (tq := 2) C h tfa_37 ha_40 (by decide) wf_1 rfl fl_X6_15 dX6_writeStep_62 (fun qa_43 tqa_43 => ?_)
      refine lv_iload_n hx hb dX6_writeStep_65 rfl (lv_at hl 2 rfl) ?_
      refine t_iald C h tfa_37 tqa_43 (by decide) wf_2 (iv_in hu2 (by decide)) dX6_writeStep_66 (fun za_44 iza_44 => ?_)
      obtain ⟨_, ra_45⟩ := t_rec tfa_37 ha_41 (by decide) wf_52
      refine k_q (r_V C h hl (As := [.int za_44]) (rest := []) (s_J4_append_bf812X l D G b0 τfa_37 fa_37 tfa_37 u1 ha_41 za_44 iza_44 ct1_fa_37 (show iv ct1_fa_37 0 49 from by omega) kpu0_3fa_37 cpfa_37) ra_45 (Cn := RJ4) (T := TJ4) (N := 4) rfl rfl mk_J4_append_bf812 w_1202 w_1203 w_1204 w_1205 ⟨Nat.le_of_ble_eq_true rfl, Nat.le_of_ble_eq_true rfl⟩ rfl (Nat.le_of_ble_eq_true rfl) ⟨Nat.le_of_ble_eq_true rfl, Nat.le_of_ble_eq_true rfl⟩ rfl dX6_writeStep_67) h (fun ra_46 fa_47 H locs pa_48 h => ?_)
      obtain ⟨τfa_47, exfa_47, qra_46, tfa_47, ogfa_47, ⟨ct1_fa_47, kpu0_3fa_47, ipu0_3fa_47, rpu0_3fa_47⟩, cpfa_47⟩ := pa_48
      have ofa_47 : Fr [0, 52, 53, 52001, 52004] τfa_37 fa_37 fa_47 := Fr.tr ofa_37z ogfa_47 (by decide) (by decide)
      have Ofa_47 : Fr [0, 52, 53, 52001, 52004] τ f fa_47 := Fr.tr Ofa_37 (Fr.cv xfa_37 ofa_47 (by decide) (fun _ h_ => h_)) (fun _ h_ => h_) (fun _ h_ => h_)
      have xfa_47 : Ex τ τfa_47 := Ex.tr xfa_37 exfa_47
      have ha_49 : τfa_47 u0 = 1 := Ex.at exfa_47 ha_40 (by decide)
      have ha_50 : τfa_47 u1 = 52 := Ex.at exfa_47 ha_41 (by decide)
      have ofa_47z := Fr.rf [0, 52, 53, 52001, 52004] τfa_47 fa_47
      obtain ⟨qa_51, rfl, tqa_51⟩ := qra_46
      refine lv_pop hx hb dX6_writeStep_70 rfl ?_
      exact u_vret C h hr hQ (⟨τfa_47, xfa_47, tfa_47, (Fr.tr Ofa_47 (Fr.cv xfa_47 ofa_47z (by decide) (fun _ h_ => h_)) (fun _ h_ => h_) (fun _ h_ => h_)), ⟨ct1_fa_47, kpu0_3fa_47, (show iv ct1_fa_47 0 44 from by omega), (by omega)⟩, cpfa_47⟩) (Nat.le_of_ble_eq_true rfl) (Nat.le_of_ble_eq_true rfl) dX6_writeStep_71
abbrev rm_s_X6_writeToX : Room := { frames := 7, cells := 49, slots := 4900, locals := 170 }
set_option maxRecDepth 100000 in
set_option maxHeartbeats 4000000 in
theorem s_X6_writeToX (l : Launch) (D : va_G) (G : Nat → Nat) (b0 : Nat) (τ : Nat → Nat) (f : hM) (t : TI G 9 τ f) (u0 : Nat) (hu0 : τ u0 = 1) (u1 : Nat) (hu1 : τ u1 = 52) (ct : Int32) (hct : iv ct 0 0) (k_u1_3 : atp f u1 (fd 3 (.int ct))) (hCP : CPs G τ f u1) : mV l yX6_writeTo cX6_writeTo 3 rm_s_X6_writeToX D G b0 f [.ref u0, .ref u1] (fun f1 => (∃ τ1, Ex τ τ1 ∧ TI G 9 τ1 f1 ∧ Fr [0, 52, 53, 52001, 52004] τ f f1 ∧ (∃ ct1 : Int32, atp f1 u1 (fd 3 (.int ct1)) ∧ iv ct1 0 50 ∧ True) ∧ CPs G τ1 f1 u1)) := by
  refine met2 (own := RX6) (by decide) rfl (Nat.le_of_ble_eq_true rfl) ?_
  intro p e s m args below meth c ls Q hQ C hr hini hl h
  have hl : lv_has ls 3 [(0, .ref u0), (1, .ref u1)] := hl
  obtain ⟨hx, hb, hml, hown, hts, hE0, hlk⟩ := id C
  have o := Fr.rf [0, 52, 53, 52001, 52004] τ f
  refine lv_iconst (v := 0) hx hb dX6_writeTo_0 (by decide) ?_
  refine lv_istore_n (lv' := [(2, .int 0), (0, .ref u0), (1, .ref u1)]) hx hb dX6_writeTo_1 rfl hl (by decide) rfl (fun ls hl => ?_)
  have L2 : ∀ (n2 cu su : Nat), cu + 5 * n2 ≤ 45 → su + 500 * n2 ≤ 4500 → ∀ (ls : Array Slot) (f_2 : hM) (H : Heap) (locs : List Loc) (v2_2 : Int32) (g2_u1_3 : Int32) (τ2 : Nat → Nat), 8 - v2_2.toInt < (n2 : Int) → lv_has ls 3 [(0, .ref u0), (1, .ref u1), (2, .int v2_2)] → hw D b0 s.heap f_2 H locs → TI G 9 τ2 f_2 → Fr [0, 52, 53, 52001, 52004] τ f f_2 → Ex τ τ2 → iv v2_2 0 8 → iv g2_u1_3 0 40 → atp f_2 u1 (fd 3 (.int g2_u1_3)) → CPs G τ2 f_2 u1 → g2_u1_3.toInt ≤ 5 * v2_2.toInt → W p l e rm_s_X6_writeToX s m args below meth c H locs cu su Q (F0 m 2 ls []) := by
    intro n2
    induction n2 with
    | zero => intro cu su hcu hsu ls f_2 H locs v2_2 g2_u1_3 τ2 hm2 hl h t_2 O2 x2 iv2_2 ig2_u1_3 k2_u1_3 k2_u1_CP hv2_0; exact absurd hm2 (by omega)
    | succ n2 ih2 =>
      intro cu su hcu hsu ls f_2 H locs v2_2 g2_u1_3 τ2 hm2 hl h t_2 O2 x2 iv2_2 ig2_u1_3 k2_u1_3 k2_u1_CP hv2_0
      have o_2 := Fr.rf [0, 52, 53, 52001, 52004] τ2 f_2
      have ht2_u0 : τ2 u0 = 1 := Ex.at x2 hu0 (by decide)
      have ht2_u1 : τ2 u1 = 52 := Ex.at x2 hu1 (by decide)
      refine lv_iload_n hx hb dX6_writeTo_2 rfl (lv_at hl 2 rfl) ?_
      refine lv_bipush (v := 8) hx hb dX6_writeTo_3 (by decide) ?_
      refine lv_icmp_ge (tgt := 43) hx hb dX6_writeTo_5 (by decide) (fun cab2_1 => ?_) (fun cab2_1 => ?_)
      · have cab2_2 : 8 ≤ v2_2.toInt := Int32.le_iff_toInt_le.mp cab2_1
        have iab2_3 : iv v2_2 8 8 := iv_Er cab2_2 (iv_k (x := 8) (k := 8) rfl) iv2_2 (by decide)
        refine lv_aload_n hx hb dX6_writeTo_43 rfl (lv_at hl 0 rfl) ?_
        refine t_geti C h t_2 ht2_u0 (by decide) wf_1 rfl fl_X6_21 dX6_writeTo_44 (fun zab2_4 izab2_4 => ?_)
        refine lv_if_ne (tgt := 57) hx hb dX6_writeTo_47 (by decide) (fun cab2_5 => ?_) (fun cab2_5 => ?_)
        · have cab2_6 : zab2_4.toInt ≠ 0 := fun z_ => cab2_5 (Int32.toInt_inj.mp z_)
          have iab2_7 : iv zab2_4 1 9 := iv_Nl cab2_6 izab2_4 (by decide)
          refine lv_aload_n hx hb dX6_writeTo_57 rfl (lv_at hl 1 rfl) ?_
          refine va_ldcS hx hb hown (hE0.2.2.2.2.2.2.2.2.1 ("QuarterWalks$StepSet", 42, "; from ", 10) (by decide)) dX6_writeTo_58 ?_
          obtain ⟨_, rab2_8⟩ := t_rec t_2 ht2_u1 (by decide) wf_52
          refine k_q (r_V C h hl (As := [.ref (G (20 + 10))]) (rest := []) (s_J4_append_15ec4X l D G b0 τ2 f_2 t_2 u1 ht2_u1 g2_u1_3 (iv_w ig2_u1_3 (by decide)) k2_u1_3 k2_u1_CP) rab2_8 (Cn := RJ4) (T := TJ4) (N := 4) rfl rfl mk_J4_append_15ec4 w_1237 w_1238 w_1239 w_1240 ⟨Nat.le_of_ble_eq_true rfl, Nat.le_of_ble_eq_true rfl⟩ rfl (Nat.le_of_ble_eq_true rfl) ⟨by (try dsimp only [rm_s_X6_writeToX, rm_s_X6_writeStepX, rm_s_J4_append_cf468X, rm_s_J4_append_bf812X, rm_s_J4_append_15ec4X, rm_s_J4_length_8abf5X]); omega, by (try dsimp only [rm_s_X6_writeToX, rm_s_X6_writeStepX, rm_s_J4_append_cf468X, rm_s_J4_append_bf812X, rm_s_J4_append_15ec4X, rm_s_J4_length_8abf5X]); omega⟩ rfl dX6_writeTo_60) h (fun rab2_9 fab2_10 H locs pab2_11 h => ?_)
          obtain ⟨τfab2_10, exfab2_10, qrab2_9, tfab2_10, ogfab2_10, ⟨ct1_fab2_10, kpu0_3fab2_10, ipu0_3fab2_10, rpu0_3fab2_10⟩, cpfab2_10⟩ := pab2_11
          have ofab2_10 : Fr [0, 52, 53, 52001, 52004] τ2 f_2 fab2_10 := Fr.tr o_2 ogfab2_10 (by decide) (by decide)
          have Ofab2_10 : Fr [0, 52, 53, 52001, 52004] τ f fab2_10 := Fr.tr O2 (Fr.cv x2 ofab2_10 (by decide) (fun _ h_ => h_)) (fun _ h_ => h_) (fun _ h_ => h_)
          have xfab2_10 : Ex τ τfab2_10 := Ex.tr x2 exfab2_10
          have hab2_12 : τfab2_10 u0 = 1 := Ex.at exfab2_10 ht2_u0 (by decide)
          have hab2_13 : τfab2_10 u1 = 52 := Ex.at exfab2_10 ht2_u1 (by decide)
          have ofab2_10z := Fr.rf [0, 52, 53, 52001, 52004] τfab2_10 fab2_10
          obtain ⟨qab2_14, rfl, tqab2_14⟩ := qrab2_9
          refine lv_pop hx hb dX6_writeTo_63 rfl ?_
          refine lv_aload_n hx hb dX6_writeTo_64 rfl (lv_at hl 1 rfl) ?_
          refine lv_aload_n hx hb dX6_writeTo_65 rfl (lv_at hl 0 rfl) ?_
          refine t_geti C h tfab2_10 hab2_12 (by decide) wf_1 rfl fl_X6_21 dX6_writeTo_66 (fun zab2_15 izab2_15 => ?_)
          obtain ⟨_, rab2_16⟩ := t_rec tfab2_10 hab2_13 (by decide) wf_52
          refine k_q (r_V C h hl (As := [.int zab2_15]) (rest := []) (s_J4_append_bf812X l D G b0 τfab2_10 fab2_10 tfab2_10 u1 hab2_13 zab2_15 izab2_15 ct1_fab2_10 (show iv ct1_fab2_10 0 49 from by omega) kpu0_3fab2_10 cpfab2_10) rab2_16 (Cn := RJ4) (T := TJ4) (N := 4) rfl rfl mk_J4_append_bf812 w_1202 w_1203 w_1204 w_1205 ⟨Nat.le_of_ble_eq_true rfl, Nat.le_of_ble_eq_true rfl⟩ rfl (Nat.le_of_ble_eq_true rfl) ⟨by (try dsimp only [rm_s_X6_writeToX, rm_s_X6_writeStepX, rm_s_J4_append_cf468X, rm_s_J4_append_bf812X, rm_s_J4_append_15ec4X, rm_s_J4_length_8abf5X]); omega, by (try dsimp only [rm_s_X6_writeToX, rm_s_X6_writeStepX, rm_s_J4_append_cf468X, rm_s_J4_append_bf812X, rm_s_J4_append_15ec4X, rm_s_J4_length_8abf5X]); omega⟩ rfl dX6_writeTo_69) h (fun rab2_17 fab2_18 H locs pab2_19 h => ?_)
          obtain ⟨τfab2_18, exfab2_18, qrab2_17, tfab2_18, ogfab2_18, ⟨ct1_fab2_18, kpu0_3fab2_18, ipu0_3fab2_18, rpu0_3fab2_18⟩, cpfab2_18⟩ := pab2_19
          have ofab2_18 : Fr [0, 52, 53, 52001, 52004] τfab2_10 fab2_10 fab2_18 := Fr.tr ofab2_10z ogfab2_18 (by decide) (by decide)
          have Ofab2_18 : Fr [0, 52, 53, 52001, 52004] τ f fab2_18 := Fr.tr Ofab2_10 (Fr.cv xfab2_10 ofab2_18 (by decide) (fun _ h_ => h_)) (fun _ h_ => h_) (fun _ h_ => h_)
          have xfab2_18 : Ex τ τfab2_18 := Ex.tr xfab2_10 exfab2_18
          have hab2_20 : τfab2_18 u0 = 1 := Ex.at exfab2_18 hab2_12 (by decide)
          have hab2_21 : τfab2_18 u1 = 52 := Ex.at exfab2_18 hab2_13 (by decide)
          have ofab2_18z := Fr.rf [0, 52, 53, 52001, 52004] τfab2_18 fab2_18
          obtain ⟨qab2_22, rfl, tqab2_22⟩ := qrab2_17
          refine lv_pop hx hb dX6_writeTo_72 rfl ?_
          refine lv_aload_n hx hb dX6_writeTo_73 rfl (lv_at hl 1 rfl) ?_
          refine lv_bipush (v := 32) hx hb dX6_writeTo_74 (by decide) ?_
          obtain ⟨_, rab2_23⟩ := t_rec tfab2_18 hab2_21 (by decide) wf_52
          refine k_q (r_V C h hl (As := [.int 32]) (rest := []) (s_J4_append_cf468X l D G b0 τfab2_18 fab2_18 tfab2_18 u1 hab2_21 32 (iv_w (iv_k (x := 32) (k := 32) rfl) (by decide)) ct1_fab2_18 (show iv ct1_fab2_18 0 49 from by omega) kpu0_3fab2_18 cpfab2_18) rab2_23 (Cn := RJ4) (T := TJ4) (N := 4) rfl rfl mk_J4_append_cf468 w_1161 w_1162 w_1163 w_1164 ⟨Nat.le_of_ble_eq_true rfl, Nat.le_of_ble_eq_true rfl⟩ rfl (Nat.le_of_ble_eq_true rfl) ⟨by (try dsimp only [rm_s_X6_writeToX, rm_s_X6_writeStepX, rm_s_J4_append_cf468X, rm_s_J4_append_bf812X, rm_s_J4_append_15ec4X, rm_s_J4_length_8abf5X]); omega, by (try dsimp only [rm_s_X6_writeToX, rm_s_X6_writeStepX, rm_s_J4_append_cf468X, rm_s_J4_append_bf812X, rm_s_J4_append_15ec4X, rm_s_J4_length_8abf5X]); omega⟩ rfl dX6_writeTo_76) h (fun rab2_24 fab2_25 H locs pab2_26 h => ?_)
          have nab2_27 : (32 : Int32).toInt = 32 := rfl
          obtain ⟨τfab2_25, exfab2_25, qrab2_24, tfab2_25, ogfab2_25, ⟨ct1_fab2_25, kpu0_3fab2_25, ipu0_3fab2_25, rpu0_3fab2_25⟩, cpfab2_25⟩ := pab2_26
          have ofab2_25 : Fr [0, 52, 53, 52001, 52004] τfab2_18 fab2_18 fab2_25 := Fr.tr ofab2_18z ogfab2_25 (by decide) (by decide)
          have Ofab2_25 : Fr [0, 52, 53, 52001, 52004] τ f fab2_25 := Fr.tr Ofab2_18 (Fr.cv xfab2_18 ofab2_25 (by decide) (fun _ h_ => h_)) (fun _ h_ => h_) (fun _ h_ => h_)
          have xfab2_25 : Ex τ τfab2_25 := Ex.tr xfab2_18 exfab2_25
          have hab2_28 : τfab2_25 u0 = 1 := Ex.at exfab2_25 hab2_20 (by decide)
          have hab2_29 : τfab2_25 u1 = 52 := Ex.at exfab2_25 hab2_21 (by decide)
          have ofab2_25z := Fr.rf [0, 52, 53, 52001, 52004] τfab2_25 fab2_25
          obtain ⟨qab2_30, rfl, tqab2_30⟩ := qrab2_24
          refine lv_pop hx hb dX6_writeTo_79 rfl ?_
          refine lv_aload_n hx hb dX6_writeTo_80 rfl (lv_at hl 1 rfl) ?_
          refine lv_aload_n hx hb dX6_writeTo_81 rfl (lv_at hl 0 rfl) ?_
          refine t_geti C h tfab2_25 hab2_28 (by decide) wf_1 rfl fl_X6_25 dX6_writeTo_82 (fun zab2_31 izab2_31 => ?_)
          obtain ⟨_, rab2_32⟩ := t_rec tfab2_25 hab2_29 (by decide) wf_52
          refine k_q (r_V C h hl (As := [.int zab2_31]) (rest := []) (s_J4_append_bf812X l D G b0 τfab2_25 fab2_25 tfab2_25 u1 hab2_29 zab2_31 izab2_31 ct1_fab2_25 (show iv ct1_fab2_25 0 49 from by omega) kpu0_3fab2_25 cpfab2_25) rab2_32 (Cn := RJ4) (T := TJ4) (N := 4) rfl rfl mk_J4_append_bf812 w_1202 w_1203 w_1204 w_1205 ⟨Nat.le_of_ble_eq_true rfl, Nat.le_of_ble_eq_true rfl⟩ rfl (Nat.le_of_ble_eq_true rfl) ⟨by (try dsimp only [rm_s_X6_writeToX, rm_s_X6_writeStepX, rm_s_J4_append_cf468X, rm_s_J4_append_bf812X, rm_s_J4_append_15ec4X, rm_s_J4_length_8abf5X]); omega, by (try dsimp only [rm_s_X6_writeToX, rm_s_X6_writeStepX, rm_s_J4_append_cf468X, rm_s_J4_append_bf812X, rm_s_J4_append_15ec4X, rm_s_J4_length_8abf5X]); omega⟩ rfl dX6_writeTo_85) h (fun rab2_33 fab2_34 H locs pab2_35 h => ?_)
          obtain ⟨τfab2_34, exfab2_34, qrab2_33, tfab2_34, ogfab2_34, ⟨ct1_fab2_34, kpu0_3fab2_34, ipu0_3fab2_34, rpu0_3fab2_34⟩, cpfab2_34⟩ := pab2_35
          have ofab2_34 : Fr [0, 52, 53, 52001, 52004] τfab2_25 fab2_25 fab2_34 := Fr.tr ofab2_25z ogfab2_34 (by decide) (by decide)
          have Ofab2_34 : Fr [0, 52, 53, 52001, 52004] τ f fab2_34 := Fr.tr Ofab2_25 (Fr.cv xfab2_25 ofab2_34 (by decide) (fun _ h_ => h_)) (fun _ h_ => h_) (fun _ h_ => h_)
          have xfab2_34 : Ex τ τfab2_34 := Ex.tr xfab2_25 exfab2_34
          have hab2_36 : τfab2_34 u0 = 1 := Ex.at exfab2_34 hab2_28 (by decide)
          have hab2_37 : τfab2_34 u1 = 52 := Ex.at exfab2_34 hab2_29 (by decide)
          have ofab2_34z := Fr.rf [0, 52, 53, 52001, 52004] τfab2_34 fab2_34
          obtain ⟨qab2_38, rfl, tqab2_38⟩ := qrab2_33
          refine lv_pop hx hb dX6_writeTo_88 rfl ?_
          exact u_vret C h hr hQ (⟨τfab2_34, xfab2_34, tfab2_34, (Fr.tr Ofab2_34 (Fr.cv xfab2_34 ofab2_34z (by decide) (fun _ h_ => h_)) (fun _ h_ => h_) (fun _ h_ => h_)), ⟨ct1_fab2_34, kpu0_3fab2_34, ipu0_3fab2_34, trivial⟩, cpfab2_34⟩) (by (try dsimp only [rm_s_X6_writeToX, rm_s_X6_writeStepX, rm_s_J4_append_cf468X, rm_s_J4_append_bf812X, rm_s_J4_append_15ec4X, rm_s_J4_length_8abf5X]); omega) (by (try dsimp only [rm_s_X6_writeToX, rm_s_X6_writeStepX, rm_s_J4_append_cf468X, rm_s_J4_append_bf812X, rm_s_J4_append_15ec4X, rm_s_J4_length_8abf5X]); omega) dX6_writeTo_89
        · have cab2_6 : zab2_4.toInt = 0 := congrArg Int32.toInt cab2_5
          have iab2_7 : iv zab2_4 0 0 := iv_Q cab2_6 izab2_4 (iv_k (x := 0) (k := 0) rfl) (by decide)
          refine lv_aload_n hx hb dX6_writeTo_50 rfl (lv_at hl 0 rfl) ?_
          refine t_geti C h t_2 ht2_u0 (by decide) wf_1 rfl fl_X6_25 dX6_writeTo_51 (fun zab2_8 izab2_8 => ?_)
          refine lv_if_eq (tgt := 89) hx hb dX6_writeTo_54 (by decide) (fun cab2_9 => ?_) (fun cab2_9 => ?_)
          · have cab2_10 : zab2_8.toInt = 0 := congrArg Int32.toInt cab2_9
            have iab2_11 : iv zab2_8 0 0 := iv_Q cab2_10 izab2_8 (iv_k (x := 0) (k := 0) rfl) (by decide)
            exact u_vret C h hr hQ (⟨τ2, x2, t_2, (Fr.tr O2 (Fr.cv x2 o_2 (by decide) (fun _ h_ => h_)) (fun _ h_ => h_) (fun _ h_ => h_)), ⟨g2_u1_3, k2_u1_3, (iv_w ig2_u1_3 (by decide)), trivial⟩, k2_u1_CP⟩) (by (try dsimp only [rm_s_X6_writeToX, rm_s_X6_writeStepX, rm_s_J4_append_cf468X, rm_s_J4_append_bf812X, rm_s_J4_append_15ec4X, rm_s_J4_length_8abf5X]); omega) (by (try dsimp only [rm_s_X6_writeToX, rm_s_X6_writeStepX, rm_s_J4_append_cf468X, rm_s_J4_append_bf812X, rm_s_J4_append_15ec4X, rm_s_J4_length_8abf5X]); omega) dX6_writeTo_89
          · have cab2_10 : zab2_8.toInt ≠ 0 := fun z_ => cab2_9 (Int32.toInt_inj.mp z_)
            have iab2_11 : iv zab2_8 1 9 := iv_Nl cab2_10 izab2_8 (by decide)
            refine lv_aload_n hx hb dX6_writeTo_57 rfl (lv_at hl 1 rfl) ?_
            refine va_ldcS hx hb hown (hE0.2.2.2.2.2.2.2.2.1 ("QuarterWalks$StepSet", 42, "; from ", 10) (by decide)) dX6_writeTo_58 ?_
            obtain ⟨_, rab2_12⟩ := t_rec t_2 ht2_u1 (by decide) wf_52
            refine k_q (r_V C h hl (As := [.ref (G (20 + 10))]) (rest := []) (s_J4_append_15ec4X l D G b0 τ2 f_2 t_2 u1 ht2_u1 g2_u1_3 (iv_w ig2_u1_3 (by decide)) k2_u1_3 k2_u1_CP) rab2_12 (Cn := RJ4) (T := TJ4) (N := 4) rfl rfl mk_J4_append_15ec4 w_1237 w_1238 w_1239 w_1240 ⟨Nat.le_of_ble_eq_true rfl, Nat.le_of_ble_eq_true rfl⟩ rfl (Nat.le_of_ble_eq_true rfl) ⟨by (try dsimp only [rm_s_X6_writeToX, rm_s_X6_writeStepX, rm_s_J4_append_cf468X, rm_s_J4_append_bf812X, rm_s_J4_append_15ec4X, rm_s_J4_length_8abf5X]); omega, by (try dsimp only [rm_s_X6_writeToX, rm_s_X6_writeStepX, rm_s_J4_append_cf468X, rm_s_J4_append_bf812X, rm_s_J4_append_15ec4X, rm_s_J4_length_8abf5X]); omega⟩ rfl dX6_writeTo_60) h (fun rab2_13 fab2_14 H locs pab2_15 h => ?_)
            obtain ⟨τfab2_14, exfab2_14, qrab2_13, tfab2_14, ogfab2_14, ⟨ct1_fab2_14, kpu0_3fab2_14, ipu0_3fab2_14, rpu0_3fab2_14⟩, cpfab2_14⟩ := pab2_15
            have ofab2_14 : Fr [0, 52, 53, 52001, 52004] τ2 f_2 fab2_14 := Fr.tr o_2 ogfab2_14 (by decide) (by decide)
            have Ofab2_14 : Fr [0, 52, 53, 52001, 52004] τ f fab2_14 := Fr.tr O2 (Fr.cv x2 ofab2_14 (by decide) (fun _ h_ => h_)) (fun _ h_ => h_) (fun _ h_ => h_)
            have xfab2_14 : Ex τ τfab2_14 := Ex.tr x2 exfab2_14
            have hab2_16 : τfab2_14 u0 = 1 := Ex.at exfab2_14 ht2_u0 (by decide)
            have hab2_17 : τfab2_14 u1 = 52 := Ex.at exfab2_14 ht2_u1 (by decide)
            have ofab2_14z := Fr.rf [0, 52, 53, 52001, 52004] τfab2_14 fab2_14
            obtain ⟨qab2_18, rfl, tqab2_18⟩ := qrab2_13
            refine lv_pop hx hb dX6_writeTo_63 rfl ?_
            refine lv_aload_n hx hb dX6_writeTo_64 rfl (lv_at hl 1 rfl) ?_
            refine lv_aload_n hx hb dX6_writeTo_65 rfl (lv_at hl 0 rfl) ?_
            refine t_geti C h tfab2_14 hab2_16 (by decide) wf_1 rfl fl_X6_21 dX6_writeTo_66 (fun zab2_19 izab2_19 => ?_)
            obtain ⟨_, rab2_20⟩ := t_rec tfab2_14 hab2_17 (by decide) wf_52
            refine k_q (r_V C h hl (As := [.int zab2_19]) (rest := []) (s_J4_append_bf812X l D G b0 τfab2_14 fab2_14 tfab2_14 u1 hab2_17 zab2_19 izab2_19 ct1_fab2_14 (show iv ct1_fab2_14 0 49 from by omega) kpu0_3fab2_14 cpfab2_14) rab2_20 (Cn := RJ4) (T := TJ4) (N := 4) rfl rfl mk_J4_append_bf812 w_1202 w_1203 w_1204 w_1205 ⟨Nat.le_of_ble_eq_true rfl, Nat.le_of_ble_eq_true rfl⟩ rfl (Nat.le_of_ble_eq_true rfl) ⟨by (try dsimp only [rm_s_X6_writeToX, rm_s_X6_writeStepX, rm_s_J4_append_cf468X, rm_s_J4_append_bf812X, rm_s_J4_append_15ec4X, rm_s_J4_length_8abf5X]); omega, by (try dsimp only [rm_s_X6_writeToX, rm_s_X6_writeStepX, rm_s_J4_append_cf468X, rm_s_J4_append_bf812X, rm_s_J4_append_15ec4X, rm_s_J4_length_8abf5X]); omega⟩ rfl dX6_writeTo_69) h (fun rab2_21 fab2_22 H locs pab2_23 h => ?_)
            obtain ⟨τfab2_22, exfab2_22, qrab2_21, tfab2_22, ogfab2_22, ⟨ct1_fab2_22, kpu0_3fab2_22, ipu0_3fab2_22, rpu0_3fab2_22⟩, cpfab2_22⟩ := pab2_23
            have ofab2_22 : Fr [0, 52, 53, 52001, 52004] τfab2_14 fab2_14 fab2_22 := Fr.tr ofab2_14z ogfab2_22 (by decide) (by decide)
            have Ofab2_22 : Fr [0, 52, 53, 52001, 52004] τ f fab2_22 := Fr.tr Ofab2_14 (Fr.cv xfab2_14 ofab2_22 (by decide) (fun _ h_ => h_)) (fun _ h_ => h_) (fun _ h_ => h_)
            have xfab2_22 : Ex τ τfab2_22 := Ex.tr xfab2_14 exfab2_22
            have hab2_24 : τfab2_22 u0 = 1 := Ex.at exfab2_22 hab2_16 (by decide)
            have hab2_25 : τfab2_22 u1 = 52 := Ex.at exfab2_22 hab2_17 (by decide)
            have ofab2_22z := Fr.rf [0, 52, 53, 52001, 52004] τfab2_22 fab2_22
            obtain ⟨qab2_26, rfl, tqab2_26⟩ := qrab2_21
            refine lv_pop hx hb dX6_writeTo_72 rfl ?_
            refine lv_aload_n hx hb dX6_writeTo_73 rfl (lv_at hl 1 rfl) ?_
            refine lv_bipush (v := 32) hx hb dX6_writeTo_74 (by decide) ?_
            obtain ⟨_, rab2_27⟩ := t_rec tfab2_22 hab2_25 (by decide) wf_52
            refine k_q (r_V C h hl (As := [.int 32]) (rest := []) (s_J4_append_cf468X l D G b0 τfab2_22 fab2_22 tfab2_22 u1 hab2_25 32 (iv_w (iv_k (x := 32) (k := 32) rfl) (by decide)) ct1_fab2_22 (show iv ct1_fab2_22 0 49 from by omega) kpu0_3fab2_22 cpfab2_22) rab2_27 (Cn := RJ4) (T := TJ4) (N := 4) rfl rfl mk_J4_append_cf468 w_1161 w_1162 w_1163 w_1164 ⟨Nat.le_of_ble_eq_true rfl, Nat.le_of_ble_eq_true rfl⟩ rfl (Nat.le_of_ble_eq_true rfl) ⟨by (try dsimp only [rm_s_X6_writeToX, rm_s_X6_writeStepX, rm_s_J4_append_cf468X, rm_s_J4_append_bf812X, rm_s_J4_append_15ec4X, rm_s_J4_length_8abf5X]); omega, by (try dsimp only [rm_s_X6_writeToX, rm_s_X6_writeStepX, rm_s_J4_append_cf468X, rm_s_J4_append_bf812X, rm_s_J4_append_15ec4X, rm_s_J4_length_8abf5X]); omega⟩ rfl dX6_writeTo_76) h (fun rab2_28 fab2_29 H locs pab2_30 h => ?_)
            have nab2_31 : (32 : Int32).toInt = 32 := rfl
            obtain ⟨τfab2_29, exfab2_29, qrab2_28, tfab2_29, ogfab2_29, ⟨ct1_fab2_29, kpu0_3fab2_29, ipu0_3fab2_29, rpu0_3fab2_29⟩, cpfab2_29⟩ := pab2_30
            have ofab2_29 : Fr [0, 52, 53, 52001, 52004] τfab2_22 fab2_22 fab2_29 := Fr.tr ofab2_22z ogfab2_29 (by decide) (by decide)
            have Ofab2_29 : Fr [0, 52, 53, 52001, 52004] τ f fab2_29 := Fr.tr Ofab2_22 (Fr.cv xfab2_22 ofab2_29 (by decide) (fun _ h_ => h_)) (fun _ h_ => h_) (fun _ h_ => h_)
            have xfab2_29 : Ex τ τfab2_29 := Ex.tr xfab2_22 exfab2_29
            have hab2_32 : τfab2_29 u0 = 1 := Ex.at exfab2_29 hab2_24 (by decide)
            have hab2_33 : τfab2_29 u1 = 52 := Ex.at exfab2_29 hab2_25 (by decide)
            have ofab2_29z := Fr.rf [0, 52, 53, 52001, 52004] τfab2_29 fab2_29
            obtain ⟨qab2_34, rfl, tqab2_34⟩ := qrab2_28
            refine lv_pop hx hb dX6_writeTo_79 rfl ?_
            refine lv_aload_n hx hb dX6_writeTo_80 rfl (lv_at hl 1 rfl) ?_
            refine lv_aload_n hx hb dX6_writeTo_81 rfl (lv_at hl 0 rfl) ?_
            refine t_geti C h tfab2_29 hab2_32 (by decide) wf_1 rfl fl_X6_25 dX6_writeTo_82 (fun zab2_35 izab2_35 => ?_)
            obtain ⟨_, rab2_36⟩ := t_rec tfab2_29 hab2_33 (by decide) wf_52
            refine k_q (r_V C h hl (As := [.int zab2_35]) (rest := []) (s_J4_append_bf812X l D G b0 τfab2_29 fab2_29 tfab2_29 u1 hab2_33 zab2_35 izab2_35 ct1_fab2_29 (show iv ct1_fab2_29 0 49 from by omega) kpu0_3fab2_29 cpfab2_29) rab2_36 (Cn := RJ4) (T := TJ4) (N := 4) rfl rfl mk_J4_append_bf812 w_1202 w_1203 w_1204 w_1205 ⟨Nat.le_of_ble_eq_true rfl, Nat.le_of_ble_eq_true rfl⟩ rfl (Nat.le_of_ble_eq_true rfl) ⟨by (try dsimp only [rm_s_X6_writeToX, rm_s_X6_writeStepX, rm_s_J4_append_cf468X, rm_s_J4_append_bf812X, rm_s_J4_append_15ec4X, rm_s_J4_length_8abf5X]); omega, by (try dsimp only [rm_s_X6_writeToX, rm_s_X6_writeStepX, rm_s_J4_append_cf468X, rm_s_J4_append_bf812X, rm_s_J4_append_15ec4X, rm_s_J4_length_8abf5X]); omega⟩ rfl dX6_writeTo_85) h (fun rab2_37 fab2_38 H locs pab2_39 h => ?_)
            obtain ⟨τfab2_38, exfab2_38, qrab2_37, tfab2_38, ogfab2_38, ⟨ct1_fab2_38, kpu0_3fab2_38, ipu0_3fab2_38, rpu0_3fab2_38⟩, cpfab2_38⟩ := pab2_39
            have ofab2_38 : Fr [0, 52, 53, 52001, 52004] τfab2_29 fab2_29 fab2_38 := Fr.tr ofab2_29z ogfab2_38 (by decide) (by decide)
            have Ofab2_38 : Fr [0, 52, 53, 52001, 52004] τ f fab2_38 := Fr.tr Ofab2_29 (Fr.cv xfab2_29 ofab2_38 (by decide) (fun _ h_ => h_)) (fun _ h_ => h_) (fun _ h_ => h_)
            have xfab2_38 : Ex τ τfab2_38 := Ex.tr xfab2_29 exfab2_38
            have hab2_40 : τfab2_38 u0 = 1 := Ex.at exfab2_38 hab2_32 (by decide)
            have hab2_41 : τfab2_38 u1 = 52 := Ex.at exfab2_38 hab2_33 (by decide)
            have ofab2_38z := Fr.rf [0, 52, 53, 52001, 52004] τfab2_38 fab2_38
            obtain ⟨qab2_42, rfl, tqab2_42⟩ := qrab2_37
            refine lv_pop hx hb dX6_writeTo_88 rfl ?_
            exact u_vret C h hr hQ (⟨τfab2_38, xfab2_38, tfab2_38, (Fr.tr Ofab2_38 (Fr.cv xfab2_38 ofab2_38z (by decide) (fun _ h_ => h_)) (fun _ h_ => h_) (fun _ h_ => h_)), ⟨ct1_fab2_38, kpu0_3fab2_38, ipu0_3fab2_38, trivial⟩, cpfab2_38⟩) (by (try dsimp only [rm_s_X6_writeToX, rm_s_X6_writeStepX, rm_s_J4_append_cf468X, rm_s_J4_append_bf812X, rm_s_J4_append_15ec4X, rm_s_J4_length_8abf5X]); omega) (by (try dsimp only [rm_s_X6_writeToX, rm_s_X6_writeStepX, rm_s_J4_append_cf468X, rm_s_J4_append_bf812X, rm_s_J4_append_15ec4X, rm_s_J4_length_8abf5X]); omega) dX6_writeTo_89
      · have cab2_2 : v2_2.toInt < 8 := Int32.lt_iff_toInt_lt.mp (iv_nle cab2_1)
        have iab2_3 : iv v2_2 0 7 := iv_Ll cab2_2 iv2_2 (iv_k (x := 8) (k := 8) rfl) (by decide)
        refine lv_aload_n hx hb dX6_writeTo_8 rfl (lv_at hl 0 rfl) ?_
        refine t_getr (tq := 2) C h t_2 ht2_u0 (by decide) wf_1 rfl fl_X6_15 dX6_writeTo_9 (fun qab2_4 tqab2_4 => ?_)
        refine lv_iload_n hx hb dX6_writeTo_12 rfl (lv_at hl 2 rfl) ?_
        refine t_iald C h t_2 tqab2_4 (by decide) wf_2 (iv_in iab2_3 (by decide)) dX6_writeTo_13 (fun zab2_5 izab2_5 => ?_)
        refine lv_if_eq (tgt := 37) hx hb dX6_writeTo_14 (by decide) (fun cab2_6 => ?_) (fun cab2_6 => ?_)
        · have cab2_7 : zab2_5.toInt = 0 := congrArg Int32.toInt cab2_6
          have iab2_8 : iv zab2_5 0 0 := iv_Q cab2_7 izab2_5 (iv_k (x := 0) (k := 0) rfl) (by decide)
          refine i_inc hx hb dX6_writeTo_37 hl (k := 2) rfl iab2_3 rfl (lo := 1) (hi := 8) (by decide) (by decide) (lv' := fun v => [(2, .int v), (0, .ref u0), (1, .ref u1)]) (fun _ => rfl) (fun zab2_9 ls ezab2_9 mzab2_9 izab2_9 hl => ?_)
          refine lv_goto (tgt := 2) hx hb dX6_writeTo_40 (by decide) ?_
          exact ih2 _ _ (by (try dsimp only [rm_s_X6_writeToX, rm_s_X6_writeStepX, rm_s_J4_append_cf468X, rm_s_J4_append_bf812X, rm_s_J4_append_15ec4X, rm_s_J4_length_8abf5X]); omega) (by (try dsimp only [rm_s_X6_writeToX, rm_s_X6_writeStepX, rm_s_J4_append_cf468X, rm_s_J4_append_bf812X, rm_s_J4_append_15ec4X, rm_s_J4_length_8abf5X]); omega) ls f_2 H locs zab2_9 g2_u1_3 τ2 (show 8 - zab2_9.toInt < _ by omega) (lv_cons hl 1 rfl (lv_cons hl 2 rfl (lv_cons hl 0 rfl (lv_nil hl)))) h t_2 (Fr.tr O2 (Fr.cv x2 o_2 (by decide) (fun _ h_ => h_)) (fun _ h_ => h_) (fun _ h_ => h_)) x2 (iv_w izab2_9 (by decide)) ig2_u1_3 k2_u1_3 k2_u1_CP (show g2_u1_3.toInt ≤ 5 * zab2_9.toInt by omega)
        · have cab2_7 : zab2_5.toInt ≠ 0 := fun z_ => cab2_6 (Int32.toInt_inj.mp z_)
          have iab2_8 : iv zab2_5 1 9 := iv_Nl cab2_7 izab2_5 (by decide)
          refine lv_aload_n hx hb dX6_writeTo_17 rfl (lv_at hl 1 rfl) ?_
          obtain ⟨_, rab2_9⟩ := t_rec t_2 ht2_u1 (by decide) wf_52
          refine k_i (r_V C h hl (As := []) (rest := []) (s_J4_length_8abf5X l D G b0 τ2 f_2 t_2 u1 ht2_u1 g2_u1_3 (iv_w ig2_u1_3 (by decide)) k2_u1_3) rab2_9 (Cn := RJ4) (T := TJ4) (N := 4) rfl rfl mk_J4_length_8abf5 w_1154 w_1155 w_1156 w_1157 ⟨Nat.le_of_ble_eq_true rfl, Nat.le_of_ble_eq_true rfl⟩ rfl (Nat.le_of_ble_eq_true rfl) ⟨by (try dsimp only [rm_s_X6_writeToX, rm_s_X6_writeStepX, rm_s_J4_append_cf468X, rm_s_J4_append_bf812X, rm_s_J4_append_15ec4X, rm_s_J4_length_8abf5X]); omega, by (try dsimp only [rm_s_X6_writeToX, rm_s_X6_writeStepX, rm_s_J4_append_cf468X, rm_s_J4_append_bf812X, rm_s_J4_append_15ec4X, rm_s_J4_length_8abf5X]); omega⟩ rfl dX6_writeTo_18) h (fun rab2_10 fab2_11 H locs pab2_12 h => ?_)
          obtain ⟨irab2_10, tfab2_11, ogfab2_11, x0rab2_10⟩ := pab2_12
          have egfab2_11 := Fr.nil2 ogfab2_11
          subst egfab2_11
          refine lv_if_le (tgt := 31) hx hb dX6_writeTo_21 (by decide) (fun cab2_13 => ?_) (fun cab2_13 => ?_)
          · have cab2_14 : rab2_10.toInt ≤ 0 := Int32.le_iff_toInt_le.mp cab2_13
            have iab2_15 : iv rab2_10 0 0 := iv_El cab2_14 irab2_10 (iv_k (x := 0) (k := 0) rfl) (by decide)
            refine lv_aload_n hx hb dX6_writeTo_31 rfl (lv_at hl 0 rfl) ?_
            refine lv_aload_n hx hb dX6_writeTo_32 rfl (lv_at hl 1 rfl) ?_
            refine lv_iload_n hx hb dX6_writeTo_33 rfl (lv_at hl 2 rfl) ?_
            obtain ⟨_, rab2_16⟩ := t_rec t_2 ht2_u0 (by decide) wf_1
            refine k_v (r_V C h hl (As := [.ref u1, .int v2_2]) (rest := []) (s_X6_writeStepX l D G b0 τ2 f_2 t_2 u0 ht2_u0 u1 ht2_u1 v2_2 iab2_3 g2_u1_3 ig2_u1_3 k2_u1_3 k2_u1_CP) rab2_16 (Cn := RX6) (T := TX6) (N := 4) rfl rfl mk_X6_writeStep w_1196 w_1198 w_31 w_1199 ⟨Nat.le_of_ble_eq_true rfl, Nat.le_of_ble_eq_true rfl⟩ rfl (Nat.le_of_ble_eq_true rfl) ⟨by (try dsimp only [rm_s_X6_writeToX, rm_s_X6_writeStepX, rm_s_J4_append_cf468X, rm_s_J4_append_bf812X, rm_s_J4_append_15ec4X, rm_s_J4_length_8abf5X]); omega, by (try dsimp only [rm_s_X6_writeToX, rm_s_X6_writeStepX, rm_s_J4_append_cf468X, rm_s_J4_append_bf812X, rm_s_J4_append_15ec4X, rm_s_J4_length_8abf5X]); omega⟩ rfl dX6_writeTo_34) h (fun fab2_18 H locs pab2_19 h => ?_)
            obtain ⟨τfab2_18, exfab2_18, tfab2_18, ogfab2_18, ⟨ct1_fab2_18, kpu1_3fab2_18, ipu1_3fab2_18, rpu1_3fab2_18⟩, cpfab2_18⟩ := pab2_19
            have ofab2_18 : Fr [0, 52, 53, 52001, 52004] τ2 f_2 fab2_18 := Fr.tr o_2 ogfab2_18 (by decide) (by decide)
            have Ofab2_18 : Fr [0, 52, 53, 52001, 52004] τ f fab2_18 := Fr.tr O2 (Fr.cv x2 ofab2_18 (by decide) (fun _ h_ => h_)) (fun _ h_ => h_) (fun _ h_ => h_)
            have xfab2_18 : Ex τ τfab2_18 := Ex.tr x2 exfab2_18
            have hab2_20 : τfab2_18 u0 = 1 := Ex.at exfab2_18 ht2_u0 (by decide)
            have hab2_21 : τfab2_18 u1 = 52 := Ex.at exfab2_18 ht2_u1 (by decide)
            have ofab2_18z := Fr.rf [0, 52, 53, 52001, 52004] τfab2_18 fab2_18
            refine i_inc hx hb dX6_writeTo_37 hl (k := 2) rfl iab2_3 rfl (lo := 1) (hi := 8) (by decide) (by decide) (lv' := fun v => [(2, .int v), (0, .ref u0), (1, .ref u1)]) (fun _ => rfl) (fun zab2_22 ls ezab2_22 mzab2_22 izab2_22 hl => ?_)
            refine lv_goto (tgt := 2) hx hb dX6_writeTo_40 (by decide) ?_
            exact ih2 _ _ (by (try dsimp only [rm_s_X6_writeToX, rm_s_X6_writeStepX, rm_s_J4_append_cf468X, rm_s_J4_append_bf812X, rm_s_J4_append_15ec4X, rm_s_J4_length_8abf5X]); omega) (by (try dsimp only [rm_s_X6_writeToX, rm_s_X6_writeStepX, rm_s_J4_append_cf468X, rm_s_J4_append_bf812X, rm_s_J4_append_15ec4X, rm_s_J4_length_8abf5X]); omega) ls fab2_18 H locs zab2_22 ct1_fab2_18 τfab2_18 (show 8 - zab2_22.toInt < _ by omega) (lv_cons hl 1 rfl (lv_cons hl 2 rfl (lv_cons hl 0 rfl (lv_nil hl)))) h tfab2_18 (Fr.tr Ofab2_18 (Fr.cv xfab2_18 ofab2_18z (by decide) (fun _ h_ => h_)) (fun _ h_ => h_) (fun _ h_ => h_)) xfab2_18 (iv_w izab2_22 (by decide)) (show iv ct1_fab2_18 0 40 from by omega) kpu1_3fab2_18 cpfab2_18 (show ct1_fab2_18.toInt ≤ 5 * zab2_22.toInt by omega)
          · have cab2_14 : 0 < rab2_10.toInt := Int32.lt_iff_toInt_lt.mp (iv_nle cab2_13)
            have iab2_15 : iv rab2_10 1 50 := iv_Lr cab2_14 (iv_k (x := 0) (k := 0) rfl) irab2_10 (by decide)
            refine lv_aload_n hx hb dX6_writeTo_24 rfl (lv_at hl 1 rfl) ?_
            refine lv_bipush (v := 32) hx hb dX6_writeTo_25 (by decide) ?_
            obtain ⟨_, rab2_16⟩ := t_rec t_2 ht2_u1 (by decide) wf_52
            refine k_q (r_V C h hl (As := [.int 32]) (rest := []) (s_J4_append_cf468X l D G b0 τ2 f_2 t_2 u1 ht2_u1 32 (iv_w (iv_k (x := 32) (k := 32) rfl) (by decide)) g2_u1_3 (iv_w ig2_u1_3 (by decide)) k2_u1_3 k2_u1_CP) rab2_16 (Cn := RJ4) (T := TJ4) (N := 4) rfl rfl mk_J4_append_cf468 w_1161 w_1162 w_1163 w_1164 ⟨Nat.le_of_ble_eq_true rfl, Nat.le_of_ble_eq_true rfl⟩ rfl (Nat.le_of_ble_eq_true rfl) ⟨by (try dsimp only [rm_s_X6_writeToX, rm_s_X6_writeStepX, rm_s_J4_append_cf468X, rm_s_J4_append_bf812X, rm_s_J4_append_15ec4X, rm_s_J4_length_8abf5X]); omega, by (try dsimp only [rm_s_X6_writeToX, rm_s_X6_writeStepX, rm_s_J4_append_cf468X, rm_s_J4_append_bf812X, rm_s_J4_append_15ec4X, rm_s_J4_length_8abf5X]); omega⟩ rfl dX6_writeTo_27) h (fun rab2_17 fab2_18 H locs pab2_19 h => ?_)
            have nab2_20 : (32 : Int32).toInt = 32 := rfl
            obtain ⟨τfab2_18, exfab2_18, qrab2_17, tfab2_18, ogfab2_18, ⟨ct1_fab2_18, kpu0_3fab2_18, ipu0_3fab2_18, rpu0_3fab2_18⟩, cpfab2_18⟩ := pab2_19
            have ofab2_18 : Fr [0, 52, 53, 52001, 52004] τ2 f_2 fab2_18 := Fr.tr o_2 ogfab2_18 (by decide) (by decide)
            have Ofab2_18 : Fr [0, 52, 53, 52001, 52004] τ f fab2_18 := Fr.tr O2 (Fr.cv x2 ofab2_18 (by decide) (fun _ h_ => h_)) (fun _ h_ => h_) (fun _ h_ => h_)
            have xfab2_18 : Ex τ τfab2_18 := Ex.tr x2 exfab2_18
            have hab2_21 : τfab2_18 u0 = 1 := Ex.at exfab2_18 ht2_u0 (by decide)
            have hab2_22 : τfab2_18 u1 = 52 := Ex.at exfab2_18 ht2_u1 (by decide)
            have ofab2_18z := Fr.rf [0, 52, 53, 52001, 52004] τfab2_18 fab2_18
            obtain ⟨qab2_23, rfl, tqab2_23⟩ := qrab2_17
            refine lv_pop hx hb dX6_writeTo_30 rfl ?_
            refine lv_aload_n hx hb dX6_writeTo_31 rfl (lv_at hl 0 rfl) ?_
            refine lv_aload_n hx hb dX6_writeTo_32 rfl (lv_at hl 1 rfl) ?_
            refine lv_iload_n hx hb dX6_writeTo_33 rfl (lv_at hl 2 rfl) ?_
            obtain ⟨_, rab2_24⟩ := t_rec tfab2_18 hab2_21 (by decide) wf_1
            refine k_v (r_V C h hl (As := [.ref u1, .int v2_2]) (rest := []) (s_X6_writeStepX l D G b0 τfab2_18 fab2_18 tfab2_18 u0 hab2_21 u1 hab2_22 v2_2 iab2_3 ct1_fab2_18 (show iv ct1_fab2_18 0 40 from by omega) kpu0_3fab2_18 cpfab2_18) rab2_24 (Cn := RX6) (T := TX6) (N := 4) rfl rfl mk_X6_writeStep w_1196 w_1198 w_31 w_1199 ⟨Nat.le_of_ble_eq_true rfl, Nat.le_of_ble_eq_true rfl⟩ rfl (Nat.le_of_ble_eq_true rfl) ⟨by (try dsimp only [rm_s_X6_writeToX, rm_s_X6_writeStepX, rm_s_J4_append_cf468X, rm_s_J4_append_bf812X, rm_s_J4_append_15ec4X, rm_s_J4_length_8abf5X]); omega, by (try dsimp only [rm_s_X6_writeToX, rm_s_X6_writeStepX, rm_s_J4_append_cf468X, rm_s_J4_append_bf812X, rm_s_J4_append_15ec4X, rm_s_J4_length_8abf5X]); omega⟩ rfl dX6_writeTo_34) h (fun fab2_26 H locs pab2_27 h => ?_)
            obtain ⟨τfab2_26, exfab2_26, tfab2_26, ogfab2_26, ⟨ct1_fab2_26, kpu1_3fab2_26, ipu1_3fab2_26, rpu1_3fab2_26⟩, cpfab2_26⟩ := pab2_27
            have ofab2_26 : Fr [0, 52, 53, 52001, 52004] τfab2_18 fab2_18 fab2_26 := Fr.tr ofab2_18z ogfab2_26 (by decide) (by decide)
            have Ofab2_26 : Fr [0, 52, 53, 52001, 52004] τ f fab2_26 := Fr.tr Ofab2_18 (Fr.cv xfab2_18 ofab2_26 (by decide) (fun _ h_ => h_)) (fun _ h_ => h_) (fun _ h_ => h_)
            have xfab2_26 : Ex τ τfab2_26 := Ex.tr xfab2_18 exfab2_26
            have hab2_28 : τfab2_26 u0 = 1 := Ex.at exfab2_26 hab2_21 (by decide)
            have hab2_29 : τfab2_26 u1 = 52 := Ex.at exfab2_26 hab2_22 (by decide)
            have ofab2_26z := Fr.rf [0, 52, 53, 52001, 52004] τfab2_26 fab2_26
            refine i_inc hx hb dX6_writeTo_37 hl (k := 2) rfl iab2_3 rfl (lo := 1) (hi := 8) (by decide) (by decide) (lv' := fun v => [(2, .int v), (0, .ref u0), (1, .ref u1)]) (fun _ => rfl) (fun zab2_30 ls ezab2_30 mzab2_30 izab2_30 hl => ?_)
            refine lv_goto (tgt := 2) hx hb dX6_writeTo_40 (by decide) ?_
            exact ih2 _ _ (by (try dsimp only [rm_s_X6_writeToX, rm_s_X6_writeStepX, rm_s_J4_append_cf468X, rm_s_J4_append_bf812X, rm_s_J4_append_15ec4X, rm_s_J4_length_8abf5X]); omega) (by (try dsimp only [rm_s_X6_writeToX, rm_s_X6_writeStepX, rm_s_J4_append_cf468X, rm_s_J4_append_bf812X, rm_s_J4_append_15ec4X, rm_s_J4_length_8abf5X]); omega) ls fab2_26 H locs zab2_30 ct1_fab2_26 τfab2_26 (show 8 - zab2_30.toInt < _ by omega) (lv_cons hl 1 rfl (lv_cons hl 2 rfl (lv_cons hl 0 rfl (lv_nil hl)))) h tfab2_26 (Fr.tr Ofab2_26 (Fr.cv xfab2_26 ofab2_26z (by decide) (fun _ h_ => h_)) (fun _ h_ => h_) (fun _ h_ => h_)) xfab2_26 (iv_w izab2_30 (by decide)) (show iv ct1_fab2_26 0 40 from by omega) kpu1_3fab2_26 cpfab2_26 (show ct1_fab2_26.toInt ≤ 5 * zab2_30.toInt by omega)
  exact L2 9 0 0 (by decide) (by decide) ls f s.heap [] 0 ct τ (by decide) (lv_cons hl 1 rfl (lv_cons hl 2 rfl (lv_cons hl 0 rfl (lv_nil hl)))) h t o (Ex.rf τ) ⟨by decide, by decide⟩ (iv_w hct (by decide)) k_u1_3 hCP (show ct.toInt ≤ 5 * 0 by omega)
