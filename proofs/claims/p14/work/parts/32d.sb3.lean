theorem dJ5_append_3fe6f_0 : decode cJ5_append_3fe6f 0 = .ok (.aload_n 0, 1) := by decide +kernel
theorem dJ5_append_3fe6f_1 : decode cJ5_append_3fe6f 1 = .ok (.aload_n 0, 1) := by decide +kernel
theorem dJ5_append_3fe6f_2 : decode cJ5_append_3fe6f 2 = .ok (.getfield 79, 3) := by decide +kernel
theorem w_368 : Cond.fieldLink "java/lang/AbstractStringBuilder" 79 "java/lang/AbstractStringBuilder" "count" "I" ∈ wAll := wI2 33 (by decide +kernel) (by decide +kernel)
theorem fl_J5_79 : fl RJ5 79 0 3 := ⟨RJ4, TJ4, 4, rfl, inA_J4, by decide, w_368⟩
theorem dJ5_append_3fe6f_5 : decode cJ5_append_3fe6f 5 = .ok (.iconst 1, 1) := by decide +kernel
theorem dJ5_append_3fe6f_6 : decode cJ5_append_3fe6f 6 = .ok (.iadd, 1) := by decide +kernel
theorem dJ5_append_3fe6f_7 : decode cJ5_append_3fe6f 7 = .ok (.invokevirtual 100, 3) := by decide +kernel
theorem w_1107 : Cond.methodLink "java/lang/AbstractStringBuilder" 100 yJ5_ensureCapacityInternal_d00df ∈ wAll := wI5 52 (by decide +kernel) (by decide +kernel)
theorem mk_J5_ensureCapacityInternal_d00df : mk yJ5_ensureCapacityInternal_d00df 1 := ⟨by decide +kernel, w_106⟩
theorem w_1109 : Cond.instanceMethod yJ5_ensureCapacityInternal_d00df ∈ wAll := wI5 54 (by decide +kernel) (by decide +kernel)
theorem w_1110 : Cond.code yJ5_ensureCapacityInternal_d00df cJ5_ensureCapacityInternal_d00df 3 none ∈ wAll := wI5 55 (by decide +kernel) (by decide +kernel)
theorem dJ5_append_3fe6f_10 : decode cJ5_append_3fe6f 10 = .ok (.aload_n 0, 1) := by decide +kernel
theorem dJ5_append_3fe6f_11 : decode cJ5_append_3fe6f 11 = .ok (.invokevirtual 83, 3) := by decide +kernel
theorem w_1132 : Cond.methodLink "java/lang/AbstractStringBuilder" 83 yJ5_isLatin1_aae02 ∈ wAll := wI5 77 (by decide +kernel) (by decide +kernel)
theorem mk_J5_isLatin1_aae02 : mk yJ5_isLatin1_aae02 0 := ⟨by decide +kernel, w_106⟩
theorem w_1133 : Cond.instanceMethod yJ5_isLatin1_aae02 ∈ wAll := wI5 78 (by decide +kernel) (by decide +kernel)
theorem w_1136 : Cond.code yJ5_isLatin1_aae02 cJ5_isLatin1_aae02 1 (some .boolean) ∈ wAll := wI5 81 (by decide +kernel) (by decide +kernel)
theorem dJ5_append_3fe6f_14 : decode cJ5_append_3fe6f 14 = .ok (.ifCond .eq 31, 3) := by decide +kernel
theorem dJ5_append_3fe6f_17 : decode cJ5_append_3fe6f 17 = .ok (.iload_n 1, 1) := by decide +kernel
theorem dJ5_append_3fe6f_18 : decode cJ5_append_3fe6f 18 = .ok (.invokestatic 191, 3) := by decide +kernel
theorem w_1168 : Cond.methodLink "java/lang/AbstractStringBuilder" 191 yJ1_canEncode_fc78d ∈ wAll := wI5 113 (by decide +kernel) (by decide +kernel)
theorem mk_J1_canEncode_fc78d : mk yJ1_canEncode_fc78d 1 := ⟨by decide +kernel, w_113⟩
theorem w_1169 : Cond.static yJ1_canEncode_fc78d ∈ wAll := wI5 114 (by decide +kernel) (by decide +kernel)
theorem w_1170 : Cond.code yJ1_canEncode_fc78d cJ1_canEncode_fc78d 1 (some .boolean) ∈ wAll := wI5 115 (by decide +kernel) (by decide +kernel)
theorem dJ5_append_3fe6f_21 : decode cJ5_append_3fe6f 21 = .ok (.ifCond .eq 24, 3) := by decide +kernel
theorem dJ5_append_3fe6f_24 : decode cJ5_append_3fe6f 24 = .ok (.aload_n 0, 1) := by decide +kernel
theorem dJ5_append_3fe6f_25 : decode cJ5_append_3fe6f 25 = .ok (.getfield 15, 3) := by decide +kernel
theorem dJ5_append_3fe6f_28 : decode cJ5_append_3fe6f 28 = .ok (.aload_n 0, 1) := by decide +kernel
theorem dJ5_append_3fe6f_29 : decode cJ5_append_3fe6f 29 = .ok (.dup, 1) := by decide +kernel
theorem dJ5_append_3fe6f_30 : decode cJ5_append_3fe6f 30 = .ok (.getfield 79, 3) := by decide +kernel
theorem dJ5_append_3fe6f_33 : decode cJ5_append_3fe6f 33 = .ok (.dup_x1, 1) := by decide +kernel
theorem dJ5_append_3fe6f_34 : decode cJ5_append_3fe6f 34 = .ok (.iconst 1, 1) := by decide +kernel
theorem dJ5_append_3fe6f_35 : decode cJ5_append_3fe6f 35 = .ok (.iadd, 1) := by decide +kernel
theorem dJ5_append_3fe6f_36 : decode cJ5_append_3fe6f 36 = .ok (.putfield 79, 3) := by decide +kernel
theorem flw_J5_79 : flw RJ5 79 0 3 (.int) := ⟨RJ4, TJ4, 4, tyJ4, rfl, inA_J4, by decide, w_368, tyJ4_ok, nmJ4, by decide +kernel, Or.inl rfl⟩
theorem dJ5_append_3fe6f_39 : decode cJ5_append_3fe6f 39 = .ok (.iload_n 1, 1) := by decide +kernel
theorem dJ5_append_3fe6f_40 : decode cJ5_append_3fe6f 40 = .ok (.i2b, 1) := by decide +kernel
theorem dJ5_append_3fe6f_41 : decode cJ5_append_3fe6f 41 = .ok (.bastore, 1) := by decide +kernel
theorem dJ5_append_3fe6f_42 : decode cJ5_append_3fe6f 42 = .ok (.goto 33, 3) := by decide +kernel
theorem dJ5_append_3fe6f_75 : decode cJ5_append_3fe6f 75 = .ok (.aload_n 0, 1) := by decide +kernel
theorem dJ5_append_3fe6f_76 : decode cJ5_append_3fe6f 76 = .ok (.areturn, 1) := by decide +kernel
theorem dJ6_stringSize_0f7a4_0 : decode cJ6_stringSize_0f7a4 0 = .ok (.iconst 1, 1) := by decide +kernel
theorem dJ6_stringSize_0f7a4_1 : decode cJ6_stringSize_0f7a4 1 = .ok (.istore_n 1, 1) := by decide +kernel
theorem dJ6_stringSize_0f7a4_2 : decode cJ6_stringSize_0f7a4 2 = .ok (.iload_n 0, 1) := by decide +kernel
theorem dJ6_stringSize_0f7a4_3 : decode cJ6_stringSize_0f7a4 3 = .ok (.ifCond .lt 8, 3) := by decide +kernel
theorem dJ6_stringSize_0f7a4_6 : decode cJ6_stringSize_0f7a4 6 = .ok (.iconst 0, 1) := by decide +kernel
theorem dJ6_stringSize_0f7a4_7 : decode cJ6_stringSize_0f7a4 7 = .ok (.istore_n 1, 1) := by decide +kernel
theorem dJ6_stringSize_0f7a4_8 : decode cJ6_stringSize_0f7a4 8 = .ok (.iload_n 0, 1) := by decide +kernel
theorem dJ6_stringSize_0f7a4_9 : decode cJ6_stringSize_0f7a4 9 = .ok (.ineg, 1) := by decide +kernel
theorem dJ6_stringSize_0f7a4_10 : decode cJ6_stringSize_0f7a4 10 = .ok (.istore_n 0, 1) := by decide +kernel
theorem dJ6_stringSize_0f7a4_11 : decode cJ6_stringSize_0f7a4 11 = .ok (.bipush (-10), 2) := by decide +kernel
theorem dJ6_stringSize_0f7a4_13 : decode cJ6_stringSize_0f7a4 13 = .ok (.istore_n 2, 1) := by decide +kernel
theorem dJ6_stringSize_0f7a4_14 : decode cJ6_stringSize_0f7a4 14 = .ok (.iconst 1, 1) := by decide +kernel
theorem dJ6_stringSize_0f7a4_15 : decode cJ6_stringSize_0f7a4 15 = .ok (.istore_n 3, 1) := by decide +kernel
theorem dJ6_stringSize_0f7a4_16 : decode cJ6_stringSize_0f7a4 16 = .ok (.iload_n 3, 1) := by decide +kernel
theorem dJ6_stringSize_0f7a4_17 : decode cJ6_stringSize_0f7a4 17 = .ok (.bipush 10, 2) := by decide +kernel
theorem dJ6_stringSize_0f7a4_19 : decode cJ6_stringSize_0f7a4 19 = .ok (.if_icmp .ge 23, 3) := by decide +kernel
theorem dJ6_stringSize_0f7a4_22 : decode cJ6_stringSize_0f7a4 22 = .ok (.iload_n 0, 1) := by decide +kernel
theorem dJ6_stringSize_0f7a4_23 : decode cJ6_stringSize_0f7a4 23 = .ok (.iload_n 2, 1) := by decide +kernel
theorem dJ6_stringSize_0f7a4_24 : decode cJ6_stringSize_0f7a4 24 = .ok (.if_icmp .le 7, 3) := by decide +kernel
theorem dJ6_stringSize_0f7a4_27 : decode cJ6_stringSize_0f7a4 27 = .ok (.iload_n 3, 1) := by decide +kernel
theorem dJ6_stringSize_0f7a4_28 : decode cJ6_stringSize_0f7a4 28 = .ok (.iload_n 1, 1) := by decide +kernel
theorem dJ6_stringSize_0f7a4_29 : decode cJ6_stringSize_0f7a4 29 = .ok (.iadd, 1) := by decide +kernel
theorem dJ6_stringSize_0f7a4_30 : decode cJ6_stringSize_0f7a4 30 = .ok (.ireturn, 1) := by decide +kernel
theorem dJ6_getChars_ba4f3_0 : decode cJ6_getChars_ba4f3 0 = .ok (.iload_n 1, 1) := by decide +kernel
theorem dJ6_getChars_ba4f3_1 : decode cJ6_getChars_ba4f3 1 = .ok (.istore 5, 2) := by decide +kernel
theorem dJ6_getChars_ba4f3_3 : decode cJ6_getChars_ba4f3 3 = .ok (.iload_n 0, 1) := by decide +kernel
theorem dJ6_getChars_ba4f3_4 : decode cJ6_getChars_ba4f3 4 = .ok (.ifCond .ge 7, 3) := by decide +kernel
theorem dJ6_getChars_ba4f3_11 : decode cJ6_getChars_ba4f3 11 = .ok (.iconst 0, 1) := by decide +kernel
theorem dJ6_getChars_ba4f3_12 : decode cJ6_getChars_ba4f3 12 = .ok (.istore 6, 2) := by decide +kernel
theorem dJ6_getChars_ba4f3_14 : decode cJ6_getChars_ba4f3 14 = .ok (.iload 6, 2) := by decide +kernel
theorem dJ6_getChars_ba4f3_16 : decode cJ6_getChars_ba4f3 16 = .ok (.ifCond .ne 6, 3) := by decide +kernel
theorem dJ6_getChars_ba4f3_19 : decode cJ6_getChars_ba4f3 19 = .ok (.iload_n 0, 1) := by decide +kernel
theorem dJ6_getChars_ba4f3_20 : decode cJ6_getChars_ba4f3 20 = .ok (.ineg, 1) := by decide +kernel
theorem dJ6_getChars_ba4f3_21 : decode cJ6_getChars_ba4f3 21 = .ok (.istore_n 0, 1) := by decide +kernel
theorem dJ6_getChars_ba4f3_22 : decode cJ6_getChars_ba4f3 22 = .ok (.iload_n 0, 1) := by decide +kernel
theorem dJ6_getChars_ba4f3_23 : decode cJ6_getChars_ba4f3 23 = .ok (.bipush (-100), 2) := by decide +kernel
theorem dJ6_getChars_ba4f3_25 : decode cJ6_getChars_ba4f3 25 = .ok (.if_icmp .gt 47, 3) := by decide +kernel
theorem dJ6_getChars_ba4f3_72 : decode cJ6_getChars_ba4f3 72 = .ok (.aload_n 2, 1) := by decide +kernel
theorem dJ6_getChars_ba4f3_73 : decode cJ6_getChars_ba4f3 73 = .ok (.iinc 5 (-1), 3) := by decide +kernel
theorem dJ6_getChars_ba4f3_76 : decode cJ6_getChars_ba4f3 76 = .ok (.iload 5, 2) := by decide +kernel
theorem dJ6_getChars_ba4f3_78 : decode cJ6_getChars_ba4f3 78 = .ok (.getstatic 83, 3) := by decide +kernel
theorem w_1215 : Cond.fieldLink "java/lang/Integer" 83 "java/lang/Integer" "DigitOnes" "[B" ∈ wAll := wI5 160 (by decide +kernel) (by decide +kernel)
theorem dJ6_getChars_ba4f3_81 : decode cJ6_getChars_ba4f3 81 = .ok (.iload_n 0, 1) := by decide +kernel
theorem dJ6_getChars_ba4f3_82 : decode cJ6_getChars_ba4f3 82 = .ok (.ineg, 1) := by decide +kernel
theorem dJ6_getChars_ba4f3_83 : decode cJ6_getChars_ba4f3 83 = .ok (.baload, 1) := by decide +kernel
theorem dJ6_getChars_ba4f3_84 : decode cJ6_getChars_ba4f3 84 = .ok (.bastore, 1) := by decide +kernel
theorem dJ6_getChars_ba4f3_85 : decode cJ6_getChars_ba4f3 85 = .ok (.iload_n 0, 1) := by decide +kernel
theorem dJ6_getChars_ba4f3_86 : decode cJ6_getChars_ba4f3 86 = .ok (.bipush (-9), 2) := by decide +kernel
theorem dJ6_getChars_ba4f3_88 : decode cJ6_getChars_ba4f3 88 = .ok (.if_icmp .ge 16, 3) := by decide +kernel
theorem dJ6_getChars_ba4f3_104 : decode cJ6_getChars_ba4f3 104 = .ok (.iload 6, 2) := by decide +kernel
theorem dJ6_getChars_ba4f3_106 : decode cJ6_getChars_ba4f3 106 = .ok (.ifCond .eq 12, 3) := by decide +kernel
theorem dJ6_getChars_ba4f3_118 : decode cJ6_getChars_ba4f3 118 = .ok (.iload 5, 2) := by decide +kernel
theorem dJ6_getChars_ba4f3_120 : decode cJ6_getChars_ba4f3 120 = .ok (.ireturn, 1) := by decide +kernel
theorem dJ5_append_c97b9_0 : decode cJ5_append_c97b9 0 = .ok (.aload_n 0, 1) := by decide +kernel
theorem dJ5_append_c97b9_1 : decode cJ5_append_c97b9 1 = .ok (.getfield 79, 3) := by decide +kernel
theorem dJ5_append_c97b9_4 : decode cJ5_append_c97b9 4 = .ok (.istore_n 2, 1) := by decide +kernel
theorem dJ5_append_c97b9_5 : decode cJ5_append_c97b9 5 = .ok (.iload_n 2, 1) := by decide +kernel
theorem dJ5_append_c97b9_6 : decode cJ5_append_c97b9 6 = .ok (.iload_n 1, 1) := by decide +kernel
theorem dJ5_append_c97b9_7 : decode cJ5_append_c97b9 7 = .ok (.invokestatic 245, 3) := by decide +kernel
theorem w_1209 : Cond.methodLink "java/lang/AbstractStringBuilder" 245 yJ6_stringSize_0f7a4 ∈ wAll := wI5 154 (by decide +kernel) (by decide +kernel)
theorem mk_J6_stringSize_0f7a4 : mk yJ6_stringSize_0f7a4 1 := ⟨by decide +kernel, w_122⟩
theorem w_1210 : Cond.static yJ6_stringSize_0f7a4 ∈ wAll := wI5 155 (by decide +kernel) (by decide +kernel)
theorem w_1211 : Cond.code yJ6_stringSize_0f7a4 cJ6_stringSize_0f7a4 4 (some .int) ∈ wAll := wI5 156 (by decide +kernel) (by decide +kernel)
theorem dJ5_append_c97b9_10 : decode cJ5_append_c97b9 10 = .ok (.iadd, 1) := by decide +kernel
theorem dJ5_append_c97b9_11 : decode cJ5_append_c97b9 11 = .ok (.istore_n 3, 1) := by decide +kernel
theorem dJ5_append_c97b9_12 : decode cJ5_append_c97b9 12 = .ok (.aload_n 0, 1) := by decide +kernel
theorem dJ5_append_c97b9_13 : decode cJ5_append_c97b9 13 = .ok (.iload_n 3, 1) := by decide +kernel
theorem dJ5_append_c97b9_14 : decode cJ5_append_c97b9 14 = .ok (.invokevirtual 100, 3) := by decide +kernel
theorem dJ5_append_c97b9_17 : decode cJ5_append_c97b9 17 = .ok (.aload_n 0, 1) := by decide +kernel
theorem dJ5_append_c97b9_18 : decode cJ5_append_c97b9 18 = .ok (.invokevirtual 83, 3) := by decide +kernel
theorem dJ5_append_c97b9_21 : decode cJ5_append_c97b9 21 = .ok (.ifCond .eq 16, 3) := by decide +kernel
theorem dJ5_append_c97b9_24 : decode cJ5_append_c97b9 24 = .ok (.iload_n 1, 1) := by decide +kernel
theorem dJ5_append_c97b9_25 : decode cJ5_append_c97b9 25 = .ok (.iload_n 3, 1) := by decide +kernel
theorem dJ5_append_c97b9_26 : decode cJ5_append_c97b9 26 = .ok (.aload_n 0, 1) := by decide +kernel
theorem dJ5_append_c97b9_27 : decode cJ5_append_c97b9 27 = .ok (.getfield 15, 3) := by decide +kernel
theorem dJ5_append_c97b9_30 : decode cJ5_append_c97b9 30 = .ok (.invokestatic 248, 3) := by decide +kernel
theorem w_1212 : Cond.methodLink "java/lang/AbstractStringBuilder" 248 yJ6_getChars_ba4f3 ∈ wAll := wI5 157 (by decide +kernel) (by decide +kernel)
theorem mk_J6_getChars_ba4f3 : mk yJ6_getChars_ba4f3 3 := ⟨by decide +kernel, w_122⟩
theorem w_1213 : Cond.static yJ6_getChars_ba4f3 ∈ wAll := wI5 158 (by decide +kernel) (by decide +kernel)
theorem w_1214 : Cond.code yJ6_getChars_ba4f3 cJ6_getChars_ba4f3 7 (some .int) ∈ wAll := wI5 159 (by decide +kernel) (by decide +kernel)
theorem dJ5_append_c97b9_33 : decode cJ5_append_c97b9 33 = .ok (.pop, 1) := by decide +kernel
theorem dJ5_append_c97b9_34 : decode cJ5_append_c97b9 34 = .ok (.goto 14, 3) := by decide +kernel
theorem dJ5_append_c97b9_48 : decode cJ5_append_c97b9 48 = .ok (.aload_n 0, 1) := by decide +kernel
theorem dJ5_append_c97b9_49 : decode cJ5_append_c97b9 49 = .ok (.iload_n 3, 1) := by decide +kernel
theorem dJ5_append_c97b9_50 : decode cJ5_append_c97b9 50 = .ok (.putfield 79, 3) := by decide +kernel
theorem dJ5_append_c97b9_53 : decode cJ5_append_c97b9 53 = .ok (.aload_n 0, 1) := by decide +kernel
theorem dJ5_append_c97b9_54 : decode cJ5_append_c97b9 54 = .ok (.areturn, 1) := by decide +kernel
abbrev rm_s_J5_append_3fe6fX : Room := { frames := 4, cells := 1, slots := 100, locals := 104 }
set_option maxRecDepth 100000 in
set_option maxHeartbeats 4000000 in
theorem s_J5_append_3fe6fX (l : Launch) (D : va_G) (G : Nat → Nat) (b0 : Nat) (τ : Nat → Nat) (f : hM) (t : TI G 9 τ f) (u0 : Nat) (hu0 : τ u0 = 52) (u1 : Int32) (hu1 : iv u1 0 255) (ct : Int32) (hct : iv ct 0 49) (k_u0_3 : atp f u0 (fd 3 (.int ct))) (hCP : CPs G τ f u0) : mQ l yJ5_append_3fe6f cJ5_append_3fe6f 2 (.object "java/lang/AbstractStringBuilder") rm_s_J5_append_3fe6fX D G b0 f [.ref u0, .int u1] (fun r f1 => (∃ τ1, Ex τ τ1 ∧ (∃ z, r = some z ∧ τ1 z = 52) ∧ TI G 9 τ1 f1 ∧ Fr [0, 52, 53, 52001, 52004] τ f f1 ∧ (∃ ct1 : Int32, atp f1 u0 (fd 3 (.int ct1)) ∧ iv ct1 0 50 ∧ ct1.toInt = ct.toInt + 1) ∧ CPs G τ1 f1 u0)) := by
  refine met2 (own := RJ5) (by decide) rfl (Nat.le_of_ble_eq_true rfl) ?_
  intro p e s m args below meth c ls Q hQ C hr hini hl h
  have hl : lv_has ls 2 [(0, .ref u0), (1, .int u1)] := hl
  obtain ⟨hx, hb, hml, hown, hts, hE0, hlk⟩ := id C
  have o := Fr.rf [0, 52, 53, 52001, 52004] τ f
  obtain ⟨vq, nrv, rv, ctz, hvq, k_u0_0, hRvq, kctz, hcn⟩ := hCP
  obtain rfl := fd_int k_u0_3 kctz
  have hbv := (bv_at t hvq hRvq).1
  refine lv_aload_n hx hb dJ5_append_3fe6f_0 rfl (lv_at hl 0 rfl) ?_
  refine lv_aload_n hx hb dJ5_append_3fe6f_1 rfl (lv_at hl 0 rfl) ?_
  refine t_getfd C h t hu0 (by decide) wf_52 (v := .int ct) k_u0_3 fl_J5_79 dJ5_append_3fe6f_2 ?_
  refine lv_iconst (v := 1) hx hb dJ5_append_3fe6f_5 (by decide) ?_
  refine i_addk hx hb dJ5_append_3fe6f_6 hct (k := 1) rfl (lo := 1) (hi := 50) (by decide) (fun za_1 eza_1 mza_1 iza_1 => ?_)
  obtain ⟨_, ra_2⟩ := t_rec t hu0 (by decide) wf_52
  refine k_v (r_VP C h hl (As := [.int za_1]) (rest := []) (s_J5_ensureCapacityInternal_d00dfX l D G b0 τ f t u0 hu0 za_1 (iv_w iza_1 (by decide)) ct (iv_w hct (by decide)) k_u0_3) ra_2 (Cn := RJ4) (T := TJ4) (N := 4) rfl mk_J5_ensureCapacityInternal_d00df w_1107 w_1109 (va_Nw.use (A := args) rfl (hE0.2.2.2.2.2.2.2.2.2.2.2.2.2.2.2.2.2 yJ5_ensureCapacityInternal_d00df (by simp [sel_l, yJ5_ensureCapacityInternal_d00df, RJ5]))) w_1110 ⟨Nat.le_of_ble_eq_true rfl, Nat.le_of_ble_eq_true rfl⟩ rfl (Nat.le_of_ble_eq_true rfl) ⟨Nat.le_of_ble_eq_true rfl, Nat.le_of_ble_eq_true rfl⟩ rfl dJ5_append_3fe6f_7) h (fun fa_4 H locs pa_5 h => ?_)
  obtain ⟨τfa_4, exfa_4, tfa_4, ogfa_4, x0ra_3, ⟨ct1_fa_4, kpu0_3fa_4, ipu0_3fa_4, rpu0_3fa_4⟩⟩ := pa_5
  have ofa_4 : Fr [0, 52, 53, 52001, 52004] τ f fa_4 := Fr.tr o ogfa_4 (by decide) (by decide)
  have ka_6 := atp.fk k_u0_3 ogfa_4 hu0 (by decide) (by decide)
  have Ofa_4 : Fr [0, 52, 53, 52001, 52004] τ f fa_4 := ofa_4
  have xfa_4 : Ex τ τfa_4 := exfa_4
  have ha_7 : τfa_4 u0 = 52 := Ex.at exfa_4 hu0 (by decide)
  have ha_8 : τfa_4 vq = 53 := Ex.at exfa_4 hvq (by decide)
  have ofa_4z := Fr.rf [0, 52, 53, 52001, 52004] τfa_4 fa_4
  obtain ⟨vqfa_4, nfa_4, rfa_4, tvfa_4, kvfa_4, krfa_4, cvfa_4⟩ := x0ra_3
  refine lv_aload_n hx hb dJ5_append_3fe6f_10 rfl (lv_at hl 0 rfl) ?_
  obtain ⟨_, ra_9⟩ := t_rec tfa_4 ha_7 (by decide) wf_52
  refine k_i (r_VP C h hl (As := []) (rest := []) (s_J5_isLatin1_aae02X l D G b0 τfa_4 fa_4 tfa_4 u0 ha_7) ra_9 (Cn := RJ4) (T := TJ4) (N := 4) rfl mk_J5_isLatin1_aae02 w_1132 w_1133 (hts _ w_1135) w_1136 ⟨Nat.le_of_ble_eq_true rfl, Nat.le_of_ble_eq_true rfl⟩ rfl (Nat.le_of_ble_eq_true rfl) ⟨Nat.le_of_ble_eq_true rfl, Nat.le_of_ble_eq_true rfl⟩ rfl dJ5_append_3fe6f_11) h (fun ra_10 fa_11 H locs pa_12 h => ?_)
  obtain ⟨ira_10, tfa_11, ogfa_11, x0ra_10⟩ := pa_12
  have egfa_11 := Fr.nil2 ogfa_11
  subst egfa_11
  refine lv_if_eq (tgt := 45) hx hb dJ5_append_3fe6f_14 (by decide) (fun ca_13 => ?_) (fun ca_13 => ?_)
  · have ca_14 : ra_10.toInt = 0 := congrArg Int32.toInt ca_13
    have ia_15 : iv ra_10 0 0 := iv_Q ca_14 ira_10 (iv_k (x := 0) (k := 0) rfl) (by decide)
    exfalso; omega
  · have ca_14 : ra_10.toInt ≠ 0 := fun z_ => ca_13 (Int32.toInt_inj.mp z_)
    have ia_15 : iv ra_10 1 1 := iv_Nl ca_14 ira_10 (by decide)
    refine lv_iload_n hx hb dJ5_append_3fe6f_17 rfl (lv_at hl 1 rfl) ?_
    refine k_i (r_S C h hl (As := [.int u1]) (rest := []) (s_J1_canEncode_fc78dX l D G b0 τfa_4 fa_4 tfa_4 u1 hu1) mk_J1_canEncode_fc78d w_1168 w_1169 w_1170 ⟨Nat.le_of_ble_eq_true rfl, Nat.le_of_ble_eq_true rfl⟩ rfl (Nat.le_of_ble_eq_true rfl) ⟨Nat.le_of_ble_eq_true rfl, Nat.le_of_ble_eq_true rfl⟩ rfl dJ5_append_3fe6f_18) h (fun ra_16 fa_17 H locs pa_18 h => ?_)
    obtain ⟨ira_16, tfa_17, ogfa_17, x0ra_16⟩ := pa_18
    have egfa_17 := Fr.nil2 ogfa_17
    subst egfa_17
    refine lv_if_eq (tgt := 45) hx hb dJ5_append_3fe6f_21 (by decide) (fun ca_19 => ?_) (fun ca_19 => ?_)
    · have ca_20 : ra_16.toInt = 0 := congrArg Int32.toInt ca_19
      have ia_21 : iv ra_16 0 0 := iv_Q ca_20 ira_16 (iv_k (x := 0) (k := 0) rfl) (by decide)
      exfalso; omega
    · have ca_20 : ra_16.toInt ≠ 0 := fun z_ => ca_19 (Int32.toInt_inj.mp z_)
      have ia_21 : iv ra_16 1 1 := iv_Nl ca_20 ira_16 (by decide)
      refine lv_aload_n hx hb dJ5_append_3fe6f_24 rfl (lv_at hl 0 rfl) ?_
      refine t_getfd C h tfa_4 ha_7 (by decide) wf_52 (v := .ref vqfa_4) kvfa_4 fl_J5_15 dJ5_append_3fe6f_25 ?_
      refine lv_aload_n hx hb dJ5_append_3fe6f_28 rfl (lv_at hl 0 rfl) ?_
      refine lv_dup hx hb dJ5_append_3fe6f_29 rfl ?_
      refine t_getfd C h tfa_4 ha_7 (by decide) wf_52 (v := .int ct1_fa_4) kpu0_3fa_4 fl_J5_79 dJ5_append_3fe6f_30 ?_
      refine lv_dup_x1 hx hb dJ5_append_3fe6f_33 rfl rfl ?_
      refine lv_iconst (v := 1) hx hb dJ5_append_3fe6f_34 (by decide) ?_
      refine i_addk hx hb dJ5_append_3fe6f_35 ipu0_3fa_4 (k := 1) rfl (lo := 1) (hi := 51) (by decide) (fun za_22 eza_22 mza_22 iza_22 => ?_)
      refine t_put C h tfa_4 ofa_4z ha_7 (by decide) (by decide) (by decide) wf_52 fw_52 (k := 3) rfl flw_J5_79 (Or.inr ⟨_, _, _, rfl, rfl⟩) (v := .int za_22) rfl rfl ⟨_, rfl, (iv_w iza_22 (by decide))⟩ dJ5_append_3fe6f_36 (fun fa_23 H locs h tfa_23 ofa_23 hq ha_ hn_ hk_ => ?_)
      have ka_25 := hk_ 0 _ (by decide) kvfa_4
      have ka_26 := atp.tg krfa_4 hq tvfa_4 (by decide)
      have ka_27 := ha_
      refine lv_iload_n hx hb dJ5_append_3fe6f_39 rfl (lv_at hl 1 rfl) ?_
      refine lv_i2b hx hb dJ5_append_3fe6f_40 rfl (i_top (iv_i2b _) (fun za_28 eza_28 iza_28 => ?_))
      refine e_bvast C h tfa_23 ofa_23 tvfa_4 (by decide) ka_26 (ix_o (by omega)) dJ5_append_3fe6f_41 (fun Ra_31 fa_29 erRa_31 H locs h tfa_29 ofa_29 hq hn_ ka_30 => ?_)
      have ka_32 := atp.tg ka_25 hq ha_7 (by decide)
      have ka_34 := atp.tg ka_27 hq ha_7 (by decide)
      refine lv_goto (tgt := 75) hx hb dJ5_append_3fe6f_42 (by decide) ?_
      refine lv_aload_n hx hb dJ5_append_3fe6f_75 rfl (lv_at hl 0 rfl) ?_
      exact u_aret C h hr (Or.inl ⟨_, rfl⟩) hQ (v := some u0) (⟨τfa_4, xfa_4, ⟨_, rfl, ha_7⟩, tfa_29, (Fr.tr Ofa_4 (Fr.cv xfa_4 ofa_29 (by decide) (fun _ h_ => h_)) (fun _ h_ => h_) (fun _ h_ => h_)), ⟨za_22, ka_34, (show iv za_22 0 50 from by omega), (by omega)⟩, ⟨vqfa_4, nfa_4, Ra_31, za_22, tvfa_4, ka_32, ka_30, ka_34, by omega⟩⟩) (Nat.le_of_ble_eq_true rfl) (Nat.le_of_ble_eq_true rfl) rfl dJ5_append_3fe6f_76
abbrev rm_s_J6_stringSize_0f7a4X : Room := { frames := 0, cells := 0, slots := 0, locals := 0 }
set_option maxRecDepth 100000 in
set_option maxHeartbeats 4000000 in
theorem s_J6_stringSize_0f7a4X (l : Launch) (D : va_G) (G : Nat → Nat) (b0 : Nat) (τ : Nat → Nat) (f : hM) (t : TI G 9 τ f) (u0 : Int32) (hu0 : iv u0 0 9) : mI l yJ6_stringSize_0f7a4 cJ6_stringSize_0f7a4 4 (.int) rm_s_J6_stringSize_0f7a4X D G b0 f [.int u0] (fun r f1 => iv r 1 1 ∧ TI G 9 τ f1 ∧ Fr [] τ f f1 ∧ (r.toInt = 1)) := by
  refine met2 (own := RJ6) (by decide) rfl (Nat.le_of_ble_eq_true rfl) ?_
  intro p e s m args below meth c ls Q hQ C hr hini hl h
  have hl : lv_has ls 4 [(0, .int u0)] := hl
  obtain ⟨hx, hb, hml, hown, hts, hE0, hlk⟩ := id C
  have o := Fr.rf [] τ f
  refine lv_iconst (v := 1) hx hb dJ6_stringSize_0f7a4_0 (by decide) ?_
  refine lv_istore_n (lv' := [(1, .int 1), (0, .int u0)]) hx hb dJ6_stringSize_0f7a4_1 rfl hl (by decide) rfl (fun ls hl => ?_)
  refine lv_iload_n hx hb dJ6_stringSize_0f7a4_2 rfl (lv_at hl 1 rfl) ?_
  refine lv_if_lt (tgt := 11) hx hb dJ6_stringSize_0f7a4_3 (by decide) (fun c1 => ?_) (fun c1 => ?_)
  · have c2 : u0.toInt < 0 := Int32.lt_iff_toInt_lt.mp c1
    exact (iv_cl_ c2 hu0 (iv_k (x := 0) (k := 0) rfl) (by decide)).elim
  · have c3 : 0 ≤ u0.toInt := Int32.le_iff_toInt_le.mp (iv_nlt c1)
    refine lv_iconst (v := 0) hx hb dJ6_stringSize_0f7a4_6 (by decide) ?_
    refine lv_istore_n (lv' := [(1, .int 0), (0, .int u0)]) hx hb dJ6_stringSize_0f7a4_7 rfl hl (by decide) rfl (fun ls hl => ?_)
    refine lv_iload_n hx hb dJ6_stringSize_0f7a4_8 rfl (lv_at hl 1 rfl) ?_
    refine lv_ineg hx hb dJ6_stringSize_0f7a4_9 (i_topm (P := fun q_ => q_ = -Int32.toInt u0) (iv_negm hu0 (by decide)) (fun z4 ez4 mz4 iz4 => ?_))
    refine lv_istore_n (lv' := [(0, .int z4), (1, .int 0)]) hx hb dJ6_stringSize_0f7a4_10 rfl hl (by decide) rfl (fun ls hl => ?_)
    refine lv_bipush (v := -10) hx hb dJ6_stringSize_0f7a4_11 (by decide) ?_
    refine lv_istore_n (lv' := [(2, .int (-10)), (0, .int z4), (1, .int 0)]) hx hb dJ6_stringSize_0f7a4_13 rfl hl (by decide) rfl (fun ls hl => ?_)
    refine lv_iconst (v := 1) hx hb dJ6_stringSize_0f7a4_14 (by decide) ?_
    refine lv_istore_n (lv' := [(3, .int 1), (2, .int (-10)), (0, .int z4), (1, .int 0)]) hx hb dJ6_stringSize_0f7a4_15 rfl hl (by decide) rfl (fun ls hl => ?_)
    refine lv_iload_n hx hb dJ6_stringSize_0f7a4_16 rfl (lv_at hl 0 rfl) ?_
    refine lv_bipush (v := 10) hx hb dJ6_stringSize_0f7a4_17 (by decide) ?_
    refine lv_icmp_ge (tgt := 42) hx hb dJ6_stringSize_0f7a4_19 (by decide) (fun c5 => ?_) (fun c5 => ?_)
    · exact absurd c5 (by decide)
    · refine lv_iload_n hx hb dJ6_stringSize_0f7a4_22 rfl (lv_at hl 2 rfl) ?_
      refine lv_iload_n hx hb dJ6_stringSize_0f7a4_23 rfl (lv_at hl 1 rfl) ?_
      refine lv_icmp_le (tgt := 31) hx hb dJ6_stringSize_0f7a4_24 (by decide) (fun c8 => ?_) (fun c8 => ?_)
      · have c9 : z4.toInt ≤ (-10) := Int32.le_iff_toInt_le.mp c8
        exact (iv_ce_ c9 iz4 (iv_k (x := (-10)) (k := (-10)) rfl) (by decide)).elim
      · have c10 : (-10) < z4.toInt := Int32.lt_iff_toInt_lt.mp (iv_nle c8)
        refine lv_iload_n hx hb dJ6_stringSize_0f7a4_27 rfl (lv_at hl 0 rfl) ?_
        refine lv_iload_n hx hb dJ6_stringSize_0f7a4_28 rfl (lv_at hl 3 rfl) ?_
        refine lv_iadd hx hb dJ6_stringSize_0f7a4_29 (lv_topi (fun x_ e_ => ?_))
        obtain rfl : 1 = x_ := by rw [e_]; decide
        exact u_iret C h hr hQ (⟨⟨by decide, by decide⟩, t, o, rfl⟩) (Nat.le_of_ble_eq_true rfl) (Nat.le_of_ble_eq_true rfl) dJ6_stringSize_0f7a4_30
abbrev rm_s_J6_getChars_ba4f3X : Room := { frames := 0, cells := 0, slots := 0, locals := 0 }
set_option maxRecDepth 100000 in
set_option maxHeartbeats 4000000 in
theorem s_J6_getChars_ba4f3X (l : Launch) (D : va_G) (G : Nat → Nat) (b0 : Nat) (τ : Nat → Nat) (f : hM) (t : TI G 9 τ f) (u0 : Int32) (hu0 : iv u0 0 9) (u1 : Int32) (hu1 : iv u1 1 50) (u2 : Nat) (hu2 : τ u2 = 53) (nrv : Nat) (rv : Nat → Int32) (hRu2 : atp f u2 (bvr G nrv rv)) (hr0 : u1.toInt ≤ (nrv : Int)) : mI l yJ6_getChars_ba4f3 cJ6_getChars_ba4f3 7 (.int) rm_s_J6_getChars_ba4f3X D G b0 f [.int u0, .int u1, .ref u2] (fun r f1 => iv r 0 49 ∧ TI G 9 τ f1 ∧ Fr [53] τ f f1 ∧ (∃ rv1 : Nat → Int32, atp f1 u2 (bvr G nrv rv1) ∧ True)) := by
  refine met2 (own := RJ6) (by decide) rfl (Nat.le_of_ble_eq_true rfl) ?_
  intro p e s m args below meth c ls Q hQ C hr hini hl h
  have hl : lv_has ls 7 [(0, .int u0), (1, .int u1), (2, .ref u2)] := hl
  obtain ⟨hx, hb, hml, hown, hts, hE0, hlk⟩ := id C
  have o := Fr.rf [53] τ f
  refine lv_iload_n hx hb dJ6_getChars_ba4f3_0 rfl (lv_at hl 1 rfl) ?_
  refine lv_istore (lv' := [(5, .int u1), (0, .int u0), (1, .int u1), (2, .ref u2)]) hx hb dJ6_getChars_ba4f3_1 hl (by decide) rfl (fun ls hl => ?_)
  refine lv_iload_n hx hb dJ6_getChars_ba4f3_3 rfl (lv_at hl 1 rfl) ?_
  refine lv_if_ge (tgt := 11) hx hb dJ6_getChars_ba4f3_4 (by decide) (fun c1 => ?_) (fun c1 => ?_)
  · have c2 : 0 ≤ u0.toInt := Int32.le_iff_toInt_le.mp c1
    refine lv_iconst (v := 0) hx hb dJ6_getChars_ba4f3_11 (by decide) ?_
    refine lv_istore (lv' := [(6, .int 0), (5, .int u1), (0, .int u0), (1, .int u1), (2, .ref u2)]) hx hb dJ6_getChars_ba4f3_12 hl (by decide) rfl (fun ls hl => ?_)
    refine lv_iload hx hb dJ6_getChars_ba4f3_14 (lv_at hl 0 rfl) ?_
    refine lv_if_ne (tgt := 22) hx hb dJ6_getChars_ba4f3_16 (by decide) (fun c4 => ?_) (fun c4 => ?_)
    · exact absurd c4 (by decide)
    · refine lv_iload_n hx hb dJ6_getChars_ba4f3_19 rfl (lv_at hl 2 rfl) ?_
      refine lv_ineg hx hb dJ6_getChars_ba4f3_20 (i_topm (P := fun q_ => q_ = -Int32.toInt u0) (iv_negm hu0 (by decide)) (fun z7 ez7 mz7 iz7 => ?_))
      refine lv_istore_n (lv' := [(0, .int z7), (6, .int 0), (5, .int u1), (1, .int u1), (2, .ref u2)]) hx hb dJ6_getChars_ba4f3_21 rfl hl (by decide) rfl (fun ls hl => ?_)
      refine lv_iload_n hx hb dJ6_getChars_ba4f3_22 rfl (lv_at hl 0 rfl) ?_
      refine lv_bipush (v := -100) hx hb dJ6_getChars_ba4f3_23 (by decide) ?_
      refine lv_icmp_gt (tgt := 72) hx hb dJ6_getChars_ba4f3_25 (by decide) (fun c8 => ?_) (fun c8 => ?_)
      · have c9 : (-100) < z7.toInt := Int32.lt_iff_toInt_lt.mp c8
        refine lv_aload_n hx hb dJ6_getChars_ba4f3_72 rfl (lv_at hl 4 rfl) ?_
        refine i_inc hx hb dJ6_getChars_ba4f3_73 hl (k := 2) rfl hu1 rfl (lo := 0) (hi := 49) (by decide) (by decide) (lv' := fun v => [(5, .int v), (0, .int z7), (6, .int 0), (1, .int u1), (2, .ref u2)]) (fun _ => rfl) (fun z11 ls ez11 mz11 iz11 hl => ?_)
        refine lv_iload hx hb dJ6_getChars_ba4f3_76 (lv_at hl 0 rfl) ?_
        refine va_gets hx hb hE0.2.2.2.2.2.2.2.2.2.2.2.2.2.2.2.2.1.1 h.2.2.1 hown (hts _ w_1215) (fun _ h9 => h9) dJ6_getChars_ba4f3_78 ?_
        refine lv_iload_n hx hb dJ6_getChars_ba4f3_81 rfl (lv_at hl 1 rfl) ?_
        refine lv_ineg hx hb dJ6_getChars_ba4f3_82 (i_topm (P := fun q_ => q_ = -Int32.toInt z7) (iv_negm iz7 (by decide)) (fun z12 ez12 mz12 iz12 => ?_))
        refine va_tb hx hb hE0.2.2.2.2.2.2.2.2.2.2.2.2.2.2.2.2.1.2 h.2.2.1 (ix_o (n := 100) (by omega)) rfl dJ6_getChars_ba4f3_83 (i_top (dg1_iv _) (fun z13 ez13 iz13 => ?_))
        refine e_bvast C h t o hu2 (by decide) hRu2 (ix_o (by omega)) dJ6_getChars_ba4f3_84 (fun R16 f14 erR16 H locs h tf14 of14 hq hn_ k15 => ?_)
        refine lv_iload_n hx hb dJ6_getChars_ba4f3_85 rfl (lv_at hl 1 rfl) ?_
        refine lv_bipush (v := -9) hx hb dJ6_getChars_ba4f3_86 (by decide) ?_
        refine lv_icmp_ge (tgt := 104) hx hb dJ6_getChars_ba4f3_88 (by decide) (fun c18 => ?_) (fun c18 => ?_)
        · have c19 : (-9) ≤ z7.toInt := Int32.le_iff_toInt_le.mp c18
          refine lv_iload hx hb dJ6_getChars_ba4f3_104 (lv_at hl 2 rfl) ?_
          refine lv_if_eq (tgt := 118) hx hb dJ6_getChars_ba4f3_106 (by decide) (fun c21 => ?_) (fun c21 => ?_)
          · refine lv_iload hx hb dJ6_getChars_ba4f3_118 (lv_at hl 0 rfl) ?_
            exact u_iret C h hr hQ (⟨iz11, tf14, of14, ⟨R16, k15, trivial⟩⟩) (Nat.le_of_ble_eq_true rfl) (Nat.le_of_ble_eq_true rfl) dJ6_getChars_ba4f3_120
          · exact absurd c21 (by decide)
        · have c20 : z7.toInt < (-9) := Int32.lt_iff_toInt_lt.mp (iv_nle c18)
          exact (iv_cl_ c20 iz7 (iv_k (x := (-9)) (k := (-9)) rfl) (by decide)).elim
      · have c10 : z7.toInt ≤ (-100) := Int32.le_iff_toInt_le.mp (iv_nlt c8)
        exact (iv_ce_ c10 iz7 (iv_k (x := (-100)) (k := (-100)) rfl) (by decide)).elim
  · have c3 : u0.toInt < 0 := Int32.lt_iff_toInt_lt.mp (iv_nle c1)
    exact (iv_cl_ c3 hu0 (iv_k (x := 0) (k := 0) rfl) (by decide)).elim
abbrev rm_s_J5_append_c97b9X : Room := { frames := 4, cells := 1, slots := 100, locals := 104 }
set_option maxRecDepth 100000 in
set_option maxHeartbeats 4000000 in
theorem s_J5_append_c97b9X (l : Launch) (D : va_G) (G : Nat → Nat) (b0 : Nat) (τ : Nat → Nat) (f : hM) (t : TI G 9 τ f) (u0 : Nat) (hu0 : τ u0 = 52) (u1 : Int32) (hu1 : iv u1 0 9) (ct : Int32) (hct : iv ct 0 49) (k_u0_3 : atp f u0 (fd 3 (.int ct))) (hCP : CPs G τ f u0) : mQ l yJ5_append_c97b9 cJ5_append_c97b9 4 (.object "java/lang/AbstractStringBuilder") rm_s_J5_append_c97b9X D G b0 f [.ref u0, .int u1] (fun r f1 => (∃ τ1, Ex τ τ1 ∧ (∃ z, r = some z ∧ τ1 z = 52) ∧ TI G 9 τ1 f1 ∧ Fr [0, 52, 53, 52001, 52004] τ f f1 ∧ (∃ ct1 : Int32, atp f1 u0 (fd 3 (.int ct1)) ∧ iv ct1 0 50 ∧ ct1.toInt = ct.toInt + 1) ∧ CPs G τ1 f1 u0)) := by
  refine met2 (own := RJ5) (by decide) rfl (Nat.le_of_ble_eq_true rfl) ?_
  intro p e s m args below meth c ls Q hQ C hr hini hl h
  have hl : lv_has ls 4 [(0, .ref u0), (1, .int u1)] := hl
  obtain ⟨hx, hb, hml, hown, hts, hE0, hlk⟩ := id C
  have o := Fr.rf [0, 52, 53, 52001, 52004] τ f
  obtain ⟨vq, nrv, rv, ctz, hvq, k_u0_0, hRvq, kctz, hcn⟩ := hCP
  obtain rfl := fd_int k_u0_3 kctz
  have hbv := (bv_at t hvq hRvq).1
  refine lv_aload_n hx hb dJ5_append_c97b9_0 rfl (lv_at hl 0 rfl) ?_
  refine t_getfd C h t hu0 (by decide) wf_52 (v := .int ct) k_u0_3 fl_J5_79 dJ5_append_c97b9_1 ?_
  refine lv_istore_n (lv' := [(2, .int ct), (0, .ref u0), (1, .int u1)]) hx hb dJ5_append_c97b9_4 rfl hl (by decide) rfl (fun ls hl => ?_)
  refine lv_iload_n hx hb dJ5_append_c97b9_5 rfl (lv_at hl 0 rfl) ?_
  refine lv_iload_n hx hb dJ5_append_c97b9_6 rfl (lv_at hl 2 rfl) ?_
  refine k_i (r_S C h hl (As := [.int u1]) (rest := [.int ct]) (s_J6_stringSize_0f7a4X l D G b0 τ f t u1 hu1) mk_J6_stringSize_0f7a4 w_1209 w_1210 w_1211 ⟨Nat.le_of_ble_eq_true rfl, Nat.le_of_ble_eq_true rfl⟩ rfl (Nat.le_of_ble_eq_true rfl) ⟨Nat.le_of_ble_eq_true rfl, Nat.le_of_ble_eq_true rfl⟩ rfl dJ5_append_c97b9_7) h (fun ra_1 fa_2 H locs pa_3 h => ?_)
  obtain ⟨ira_1, tfa_2, ogfa_2, x0ra_1⟩ := pa_3
  have egfa_2 := Fr.nil2 ogfa_2
  subst egfa_2
  refine i_add hx hb dJ5_append_c97b9_10 hct ira_1 (lo := 1) (hi := 50) (by decide) (fun za_4 eza_4 mza_4 iza_4 => ?_)
  refine lv_istore_n (lv' := [(3, .int za_4), (2, .int ct), (0, .ref u0), (1, .int u1)]) hx hb dJ5_append_c97b9_11 rfl hl (by decide) rfl (fun ls hl => ?_)
  refine lv_aload_n hx hb dJ5_append_c97b9_12 rfl (lv_at hl 2 rfl) ?_
  refine lv_iload_n hx hb dJ5_append_c97b9_13 rfl (lv_at hl 0 rfl) ?_
  obtain ⟨_, ra_5⟩ := t_rec t hu0 (by decide) wf_52
  refine k_v (r_VP C h hl (As := [.int za_4]) (rest := []) (s_J5_ensureCapacityInternal_d00dfX l D G b0 τ f t u0 hu0 za_4 (iv_w iza_4 (by decide)) ct (iv_w hct (by decide)) k_u0_3) ra_5 (Cn := RJ4) (T := TJ4) (N := 4) rfl mk_J5_ensureCapacityInternal_d00df w_1107 w_1109 (va_Nw.use (A := args) rfl (hE0.2.2.2.2.2.2.2.2.2.2.2.2.2.2.2.2.2 yJ5_ensureCapacityInternal_d00df (by simp [sel_l, yJ5_ensureCapacityInternal_d00df, RJ5]))) w_1110 ⟨Nat.le_of_ble_eq_true rfl, Nat.le_of_ble_eq_true rfl⟩ rfl (Nat.le_of_ble_eq_true rfl) ⟨Nat.le_of_ble_eq_true rfl, Nat.le_of_ble_eq_true rfl⟩ rfl dJ5_append_c97b9_14) h (fun fa_7 H locs pa_8 h => ?_)
  obtain ⟨τfa_7, exfa_7, tfa_7, ogfa_7, x0ra_6, ⟨ct1_fa_7, kpu0_3fa_7, ipu0_3fa_7, rpu0_3fa_7⟩⟩ := pa_8
  have ofa_7 : Fr [0, 52, 53, 52001, 52004] τ f fa_7 := Fr.tr o ogfa_7 (by decide) (by decide)
  have ka_9 := atp.fk k_u0_3 ogfa_7 hu0 (by decide) (by decide)
  have Ofa_7 : Fr [0, 52, 53, 52001, 52004] τ f fa_7 := ofa_7
  have xfa_7 : Ex τ τfa_7 := exfa_7
  have ha_10 : τfa_7 u0 = 52 := Ex.at exfa_7 hu0 (by decide)
  have ha_11 : τfa_7 vq = 53 := Ex.at exfa_7 hvq (by decide)
  have ofa_7z := Fr.rf [0, 52, 53, 52001, 52004] τfa_7 fa_7
  obtain ⟨vqfa_7, nfa_7, rfa_7, tvfa_7, kvfa_7, krfa_7, cvfa_7⟩ := x0ra_6
  refine lv_aload_n hx hb dJ5_append_c97b9_17 rfl (lv_at hl 2 rfl) ?_
  obtain ⟨_, ra_12⟩ := t_rec tfa_7 ha_10 (by decide) wf_52
  refine k_i (r_VP C h hl (As := []) (rest := []) (s_J5_isLatin1_aae02X l D G b0 τfa_7 fa_7 tfa_7 u0 ha_10) ra_12 (Cn := RJ4) (T := TJ4) (N := 4) rfl mk_J5_isLatin1_aae02 w_1132 w_1133 (hts _ w_1135) w_1136 ⟨Nat.le_of_ble_eq_true rfl, Nat.le_of_ble_eq_true rfl⟩ rfl (Nat.le_of_ble_eq_true rfl) ⟨Nat.le_of_ble_eq_true rfl, Nat.le_of_ble_eq_true rfl⟩ rfl dJ5_append_c97b9_18) h (fun ra_13 fa_14 H locs pa_15 h => ?_)
  obtain ⟨ira_13, tfa_14, ogfa_14, x0ra_13⟩ := pa_15
  have egfa_14 := Fr.nil2 ogfa_14
  subst egfa_14
  refine lv_if_eq (tgt := 37) hx hb dJ5_append_c97b9_21 (by decide) (fun ca_16 => ?_) (fun ca_16 => ?_)
  · have ca_17 : ra_13.toInt = 0 := congrArg Int32.toInt ca_16
    have ia_18 : iv ra_13 0 0 := iv_Q ca_17 ira_13 (iv_k (x := 0) (k := 0) rfl) (by decide)
    exfalso; omega
  · have ca_17 : ra_13.toInt ≠ 0 := fun z_ => ca_16 (Int32.toInt_inj.mp z_)
    have ia_18 : iv ra_13 1 1 := iv_Nl ca_17 ira_13 (by decide)
    refine lv_iload_n hx hb dJ5_append_c97b9_24 rfl (lv_at hl 3 rfl) ?_
    refine lv_iload_n hx hb dJ5_append_c97b9_25 rfl (lv_at hl 0 rfl) ?_
    refine lv_aload_n hx hb dJ5_append_c97b9_26 rfl (lv_at hl 2 rfl) ?_
    refine t_getfd C h tfa_7 ha_10 (by decide) wf_52 (v := .ref vqfa_7) kvfa_7 fl_J5_15 dJ5_append_c97b9_27 ?_
    refine k_i (r_S C h hl (As := [.int u1, .int za_4, .ref vqfa_7]) (rest := []) (s_J6_getChars_ba4f3X l D G b0 τfa_7 fa_7 tfa_7 u1 hu1 za_4 iza_4 vqfa_7 tvfa_7 nfa_7 rfa_7 krfa_7 (by omega)) mk_J6_getChars_ba4f3 w_1212 w_1213 w_1214 ⟨Nat.le_of_ble_eq_true rfl, Nat.le_of_ble_eq_true rfl⟩ rfl (Nat.le_of_ble_eq_true rfl) ⟨Nat.le_of_ble_eq_true rfl, Nat.le_of_ble_eq_true rfl⟩ rfl dJ5_append_c97b9_30) h (fun ra_19 fa_20 H locs pa_21 h => ?_)
    obtain ⟨ira_19, tfa_20, ogfa_20, ⟨rv1_fa_20, kRu2fa_20, pRu2fa_20⟩⟩ := pa_21
    have ofa_20 : Fr [0, 52, 53, 52001, 52004] τfa_7 fa_7 fa_20 := Fr.tr ofa_7z ogfa_20 (by decide) (by decide)
    have ka_22 := atp.fr kpu0_3fa_7 ogfa_20 ha_10 (by decide)
    have ka_23 := atp.fr kvfa_7 ogfa_20 ha_10 (by decide)
    refine lv_pop hx hb dJ5_append_c97b9_33 rfl ?_
    refine lv_goto (tgt := 48) hx hb dJ5_append_c97b9_34 (by decide) ?_
    refine lv_aload_n hx hb dJ5_append_c97b9_48 rfl (lv_at hl 2 rfl) ?_
    refine lv_iload_n hx hb dJ5_append_c97b9_49 rfl (lv_at hl 0 rfl) ?_
    refine t_put C h tfa_20 ofa_20 ha_10 (by decide) (by decide) (by decide) wf_52 fw_52 (k := 3) rfl flw_J5_79 (Or.inr ⟨_, _, _, rfl, rfl⟩) (v := .int za_4) rfl rfl ⟨_, rfl, (iv_w iza_4 (by decide))⟩ dJ5_append_c97b9_50 (fun fa_24 H locs h tfa_24 ofa_24 hq ha_ hn_ hk_ => ?_)
    have ka_26 := hk_ 0 _ (by decide) ka_23
    have ka_27 := atp.tg kRu2fa_20 hq tvfa_7 (by decide)
    have ka_28 := ha_
    refine lv_aload_n hx hb dJ5_append_c97b9_53 rfl (lv_at hl 2 rfl) ?_
    exact u_aret C h hr (Or.inl ⟨_, rfl⟩) hQ (v := some u0) (⟨τfa_7, xfa_7, ⟨_, rfl, ha_10⟩, tfa_24, (Fr.tr Ofa_7 (Fr.cv xfa_7 ofa_24 (by decide) (fun _ h_ => h_)) (fun _ h_ => h_) (fun _ h_ => h_)), ⟨za_4, ka_28, (iv_w iza_4 (by decide)), (by omega)⟩, ⟨vqfa_7, nfa_7, rv1_fa_20, za_4, tvfa_7, ka_26, ka_27, ka_28, by omega⟩⟩) (Nat.le_of_ble_eq_true rfl) (Nat.le_of_ble_eq_true rfl) rfl dJ5_append_c97b9_54
