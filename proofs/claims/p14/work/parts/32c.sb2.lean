theorem dJ5_ensureCapacityInternal_d00df_0 : decode cJ5_ensureCapacityInternal_d00df 0 = .ok (.aload_n 0, 1) := by decide +kernel
theorem dJ5_ensureCapacityInternal_d00df_1 : decode cJ5_ensureCapacityInternal_d00df 1 = .ok (.getfield 15, 3) := by decide +kernel
theorem dJ5_ensureCapacityInternal_d00df_4 : decode cJ5_ensureCapacityInternal_d00df 4 = .ok (.arraylength, 1) := by decide +kernel
theorem dJ5_ensureCapacityInternal_d00df_5 : decode cJ5_ensureCapacityInternal_d00df 5 = .ok (.aload_n 0, 1) := by decide +kernel
theorem dJ5_ensureCapacityInternal_d00df_6 : decode cJ5_ensureCapacityInternal_d00df 6 = .ok (.getfield 22, 3) := by decide +kernel
theorem dJ5_ensureCapacityInternal_d00df_9 : decode cJ5_ensureCapacityInternal_d00df 9 = .ok (.ishr, 1) := by decide +kernel
theorem dJ5_ensureCapacityInternal_d00df_10 : decode cJ5_ensureCapacityInternal_d00df 10 = .ok (.istore_n 2, 1) := by decide +kernel
theorem dJ5_ensureCapacityInternal_d00df_11 : decode cJ5_ensureCapacityInternal_d00df 11 = .ok (.iload_n 1, 1) := by decide +kernel
theorem dJ5_ensureCapacityInternal_d00df_12 : decode cJ5_ensureCapacityInternal_d00df 12 = .ok (.iload_n 2, 1) := by decide +kernel
theorem dJ5_ensureCapacityInternal_d00df_13 : decode cJ5_ensureCapacityInternal_d00df 13 = .ok (.isub, 1) := by decide +kernel
theorem dJ5_ensureCapacityInternal_d00df_14 : decode cJ5_ensureCapacityInternal_d00df 14 = .ok (.ifCond .le 24, 3) := by decide +kernel
theorem dJ5_ensureCapacityInternal_d00df_17 : decode cJ5_ensureCapacityInternal_d00df 17 = .ok (.aload_n 0, 1) := by decide +kernel
theorem dJ5_ensureCapacityInternal_d00df_18 : decode cJ5_ensureCapacityInternal_d00df 18 = .ok (.aload_n 0, 1) := by decide +kernel
theorem dJ5_ensureCapacityInternal_d00df_19 : decode cJ5_ensureCapacityInternal_d00df 19 = .ok (.getfield 15, 3) := by decide +kernel
theorem dJ5_ensureCapacityInternal_d00df_22 : decode cJ5_ensureCapacityInternal_d00df 22 = .ok (.aload_n 0, 1) := by decide +kernel
theorem dJ5_ensureCapacityInternal_d00df_23 : decode cJ5_ensureCapacityInternal_d00df 23 = .ok (.iload_n 1, 1) := by decide +kernel
theorem dJ5_ensureCapacityInternal_d00df_24 : decode cJ5_ensureCapacityInternal_d00df 24 = .ok (.invokevirtual 104, 3) := by decide +kernel
theorem w_1111 : Cond.methodLink "java/lang/AbstractStringBuilder" 104 yJ5_newCapacity_0f7a4 ∈ wAll := wI5 56 (by decide +kernel) (by decide +kernel)
theorem w_1135 : Cond.selects "java/lang/StringBuilder" yJ5_isLatin1_aae02 yJ5_isLatin1_aae02 ∈ wAll := wI5 80 (by decide +kernel) (by decide +kernel)
theorem w_106 : Cond.initialized "java/lang/AbstractStringBuilder" ∈ wAll := wI1 11 (by decide +kernel) (by decide +kernel)
theorem mk_J5_newCapacity_0f7a4 : mk yJ5_newCapacity_0f7a4 1 := ⟨by decide +kernel, w_106⟩
theorem w_1113 : Cond.instanceMethod yJ5_newCapacity_0f7a4 ∈ wAll := wI5 58 (by decide +kernel) (by decide +kernel)
theorem w_1114 : Cond.code yJ5_newCapacity_0f7a4 cJ5_newCapacity_0f7a4 6 (some .int) ∈ wAll := wI5 59 (by decide +kernel) (by decide +kernel)
theorem dJ5_ensureCapacityInternal_d00df_27 : decode cJ5_ensureCapacityInternal_d00df 27 = .ok (.aload_n 0, 1) := by decide +kernel
theorem dJ5_ensureCapacityInternal_d00df_28 : decode cJ5_ensureCapacityInternal_d00df 28 = .ok (.getfield 22, 3) := by decide +kernel
theorem dJ5_ensureCapacityInternal_d00df_31 : decode cJ5_ensureCapacityInternal_d00df 31 = .ok (.ishl, 1) := by decide +kernel
theorem dJ5_ensureCapacityInternal_d00df_32 : decode cJ5_ensureCapacityInternal_d00df 32 = .ok (.invokestatic 108, 3) := by decide +kernel
theorem w_1124 : Cond.methodLink "java/lang/AbstractStringBuilder" 108 yJ7_copyOf_9075b ∈ wAll := wI5 69 (by decide +kernel) (by decide +kernel)
theorem mk_J7_copyOf_9075b : mk yJ7_copyOf_9075b 2 := ⟨by decide +kernel, w_111⟩
theorem w_1125 : Cond.static yJ7_copyOf_9075b ∈ wAll := wI5 70 (by decide +kernel) (by decide +kernel)
theorem w_1126 : Cond.code yJ7_copyOf_9075b cJ7_copyOf_9075b 3 (some (.array .byte)) ∈ wAll := wI5 71 (by decide +kernel) (by decide +kernel)
theorem dJ5_ensureCapacityInternal_d00df_35 : decode cJ5_ensureCapacityInternal_d00df 35 = .ok (.putfield 15, 3) := by decide +kernel
theorem flw_J5_15 : flw RJ5 15 0 0 (.array (.byte)) := ⟨RJ4, TJ4, 4, tyJ4, rfl, inA_J4, by decide, w_365, tyJ4_ok, nmJ4, by decide +kernel, Or.inl rfl⟩
theorem dJ5_ensureCapacityInternal_d00df_38 : decode cJ5_ensureCapacityInternal_d00df 38 = .ok (.return_, 1) := by decide +kernel
abbrev rm_s_J5_ensureCapacityInternal_d00dfX : Room := { frames := 3, cells := 1, slots := 100, locals := 82 }
set_option maxRecDepth 100000 in
set_option maxHeartbeats 4000000 in
theorem s_J5_ensureCapacityInternal_d00dfX (l : Launch) (D : va_G) (G : Nat → Nat) (b0 : Nat) (τ : Nat → Nat) (f : hM) (t : TI G 9 τ f) (u0 : Nat) (hu0 : τ u0 = 52) (u1 : Int32) (hu1 : iv u1 0 50) (ct : Int32) (hct : iv ct 0 50) (k_u0_3 : atp f u0 (fd 3 (.int ct))) : mV l yJ5_ensureCapacityInternal_d00df cJ5_ensureCapacityInternal_d00df 3 rm_s_J5_ensureCapacityInternal_d00dfX D G b0 f [.ref u0, .int u1] (fun f1 => (∃ τ1, Ex τ τ1 ∧ TI G 9 τ1 f1 ∧ Fr [0, 52, 53, 52001] τ f f1 ∧ (∃ (vq1 n1 : Nat) (r1 : Nat → Int32), τ1 vq1 = 53 ∧ atp f1 u0 (fd 0 (.ref vq1)) ∧ atp f1 vq1 (bvr G n1 r1) ∧ u1.toInt ≤ (n1 : Int)) ∧ (∃ ct1 : Int32, atp f1 u0 (fd 3 (.int ct1)) ∧ iv ct1 0 50 ∧ ct1.toInt = ct.toInt))) := by
  refine met2 (own := RJ5) (by decide) rfl (Nat.le_of_ble_eq_true rfl) ?_
  intro p e s m args below meth c ls Q hQ C hr hini hl h
  have hl : lv_has ls 3 [(0, .ref u0), (1, .int u1)] := hl
  obtain ⟨hx, hb, hml, hown, hts, hE0, hlk⟩ := id C
  have o := Fr.rf [0, 52, 53, 52001] τ f
  obtain ⟨vq, hvq, k_u0_0⟩ := t_fref (tq := 53) (k := 0) t hu0 (by decide) wf_52 rfl
  obtain ⟨nrv, rv, hRvq⟩ := bv_get t hvq
  refine lv_aload_n hx hb dJ5_ensureCapacityInternal_d00df_0 rfl (lv_at hl 0 rfl) ?_
  refine t_getfd C h t hu0 (by decide) wf_52 (v := .ref vq) k_u0_0 fl_J5_15 dJ5_ensureCapacityInternal_d00df_1 ?_
  refine e_bvlen C h t hvq hRvq dJ5_ensureCapacityInternal_d00df_4 (fun za_1 mza_1 iza_1 => ?_)
  refine lv_aload_n hx hb dJ5_ensureCapacityInternal_d00df_5 rfl (lv_at hl 0 rfl) ?_
  refine t_geti C h t hu0 (by decide) wf_52 rfl fl_J5_22 dJ5_ensureCapacityInternal_d00df_6 (fun za_2 iza_2 => ?_)
  obtain rfl : (0 : Int32) = za_2 := Int32.toInt_inj.mp (by have n_ : (0 : Int32).toInt = 0 := rfl; omega)
  refine lv_ishr hx hb dJ5_ensureCapacityInternal_d00df_9 (i_topm (P := fun q_ => q_ = Int32.toInt za_1) (show _ ∧ _ by rw [sb_shr0]; exact ⟨rfl, iza_1⟩) (fun za_3 eza_3 mza_3 iza_3 => ?_))
  refine lv_istore_n (lv' := [(2, .int za_3), (0, .ref u0), (1, .int u1)]) hx hb dJ5_ensureCapacityInternal_d00df_10 rfl hl (by decide) rfl (fun ls hl => ?_)
  refine lv_iload_n hx hb dJ5_ensureCapacityInternal_d00df_11 rfl (lv_at hl 2 rfl) ?_
  refine lv_iload_n hx hb dJ5_ensureCapacityInternal_d00df_12 rfl (lv_at hl 0 rfl) ?_
  refine i_sub hx hb dJ5_ensureCapacityInternal_d00df_13 hu1 iza_3 (lo := (-100)) (hi := 34) (by decide) (fun za_4 eza_4 mza_4 iza_4 => ?_)
  refine lv_if_le (tgt := 38) hx hb dJ5_ensureCapacityInternal_d00df_14 (by decide) (fun ca_5 => ?_) (fun ca_5 => ?_)
  · have ca_6 : za_4.toInt ≤ 0 := Int32.le_iff_toInt_le.mp ca_5
    have ia_7 : iv za_4 (-100) 0 := iv_El ca_6 iza_4 (iv_k (x := 0) (k := 0) rfl) (by decide)
    exact u_vret C h hr hQ (⟨τ, (Ex.rf τ), t, o, ⟨vq, nrv, rv, hvq, k_u0_0, hRvq, by omega⟩, ⟨ct, k_u0_3, hct, rfl⟩⟩) (Nat.le_of_ble_eq_true rfl) (Nat.le_of_ble_eq_true rfl) dJ5_ensureCapacityInternal_d00df_38
  · have ca_6 : 0 < za_4.toInt := Int32.lt_iff_toInt_lt.mp (iv_nle ca_5)
    have ia_7 : iv za_4 1 34 := iv_Lr ca_6 (iv_k (x := 0) (k := 0) rfl) iza_4 (by decide)
    refine lv_aload_n hx hb dJ5_ensureCapacityInternal_d00df_17 rfl (lv_at hl 1 rfl) ?_
    refine lv_aload_n hx hb dJ5_ensureCapacityInternal_d00df_18 rfl (lv_at hl 1 rfl) ?_
    refine t_getfd C h t hu0 (by decide) wf_52 (v := .ref vq) k_u0_0 fl_J5_15 dJ5_ensureCapacityInternal_d00df_19 ?_
    refine lv_aload_n hx hb dJ5_ensureCapacityInternal_d00df_22 rfl (lv_at hl 1 rfl) ?_
    refine lv_iload_n hx hb dJ5_ensureCapacityInternal_d00df_23 rfl (lv_at hl 2 rfl) ?_
    obtain ⟨_, ra_8⟩ := t_rec t hu0 (by decide) wf_52
    refine k_i (r_VP C h hl (As := [.int u1]) (rest := [.ref vq, .ref u0]) (s_J5_newCapacity_0f7a4X l D G b0 τ f t u0 hu0 u1 (show iv u1 17 50 from by omega) vq hvq k_u0_0 nrv rv hRvq (by omega)) ra_8 (Cn := RJ4) (T := TJ4) (N := 4) rfl mk_J5_newCapacity_0f7a4 w_1111 w_1113 (va_Nw.use (A := args) rfl (hE0.2.2.2.2.2.2.2.2.2.2.2.2.2.2.2.2.2 yJ5_newCapacity_0f7a4 (by simp [sel_l, yJ5_newCapacity_0f7a4, RJ5]))) w_1114 ⟨Nat.le_of_ble_eq_true rfl, Nat.le_of_ble_eq_true rfl⟩ rfl (Nat.le_of_ble_eq_true rfl) ⟨Nat.le_of_ble_eq_true rfl, Nat.le_of_ble_eq_true rfl⟩ rfl dJ5_ensureCapacityInternal_d00df_24) h (fun ra_9 fa_10 H locs pa_11 h => ?_)
    obtain ⟨ira_9, tfa_10, ogfa_10, x0ra_9⟩ := pa_11
    have egfa_10 := Fr.nil2 ogfa_10
    subst egfa_10
    refine lv_aload_n hx hb dJ5_ensureCapacityInternal_d00df_27 rfl (lv_at hl 1 rfl) ?_
    refine t_geti C h t hu0 (by decide) wf_52 rfl fl_J5_22 dJ5_ensureCapacityInternal_d00df_28 (fun za_12 iza_12 => ?_)
    obtain rfl : (0 : Int32) = za_12 := Int32.toInt_inj.mp (by have n_ : (0 : Int32).toInt = 0 := rfl; omega)
    refine lv_ishl hx hb dJ5_ensureCapacityInternal_d00df_31 (i_topm (P := fun q_ => q_ = Int32.toInt ra_9) (show _ ∧ _ by rw [sb_shl0]; exact ⟨rfl, ira_9⟩) (fun za_13 eza_13 mza_13 iza_13 => ?_))
    refine k_q (r_S C h hl (As := [.ref vq, .int za_13]) (rest := [.ref u0]) (s_J7_copyOf_9075bX l D G b0 τ f t vq hvq za_13 iza_13 nrv rv hRvq (by omega)) mk_J7_copyOf_9075b w_1124 w_1125 w_1126 ⟨Nat.le_of_ble_eq_true rfl, Nat.le_of_ble_eq_true rfl⟩ rfl (Nat.le_of_ble_eq_true rfl) ⟨Nat.le_of_ble_eq_true rfl, Nat.le_of_ble_eq_true rfl⟩ rfl dJ5_ensureCapacityInternal_d00df_32) h (fun ra_14 fa_15 H locs pa_16 h => ?_)
    obtain ⟨τfa_15, exfa_15, qra_14, tfa_15, ogfa_15, x0ra_14⟩ := pa_16
    have ofa_15 : Fr [0, 52, 53, 52001] τ f fa_15 := Fr.tr o ogfa_15 (by decide) (by decide)
    have ka_17 := atp.fr k_u0_3 ogfa_15 hu0 (by decide)
    have ka_18 := atp.fr k_u0_0 ogfa_15 hu0 (by decide)
    have Ofa_15 : Fr [0, 52, 53, 52001] τ f fa_15 := ofa_15
    have xfa_15 : Ex τ τfa_15 := exfa_15
    have ha_19 : τfa_15 u0 = 52 := Ex.at exfa_15 hu0 (by decide)
    have ha_20 : τfa_15 vq = 53 := Ex.at exfa_15 hvq (by decide)
    have ofa_15z := Fr.rf [0, 52, 53, 52001] τfa_15 fa_15
    obtain ⟨qa_21, rfl, tqa_21⟩ := qra_14
    obtain ⟨zfa_15, nfa_15, rfa_15, ezfa_15, krfa_15, cvfa_15⟩ := x0ra_14
    cases ezfa_15
    refine t_put C h tfa_15 ofa_15z ha_19 (by decide) (by decide) (by decide) wf_52 fw_52 (k := 0) rfl flw_J5_15 (Or.inr ⟨_, _, _, rfl, rfl⟩) (v := .ref qa_21) rfl rfl ⟨_, rfl, tqa_21⟩ dJ5_ensureCapacityInternal_d00df_35 (fun fa_22 H locs h tfa_22 ofa_22 hq ha_ hn_ hk_ => ?_)
    have ka_23 := hk_ 3 _ (by decide) ka_17
    have ka_25 := atp.tg krfa_15 hq tqa_21 (by decide)
    have ka_26 := ha_
    exact u_vret C h hr hQ (⟨τfa_15, xfa_15, tfa_22, (Fr.tr Ofa_15 (Fr.cv xfa_15 ofa_22 (by decide) (fun _ h_ => h_)) (fun _ h_ => h_) (fun _ h_ => h_)), ⟨qa_21, nfa_15, rfa_15, tqa_21, ka_26, ka_25, by omega⟩, ⟨ct, ka_23, hct, rfl⟩⟩) (Nat.le_of_ble_eq_true rfl) (Nat.le_of_ble_eq_true rfl) dJ5_ensureCapacityInternal_d00df_38
