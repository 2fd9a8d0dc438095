theorem dJ5_inflateIfNeededFor_a7421_0 : decode cJ5_inflateIfNeededFor_a7421 0 = .ok (.getstatic 18, 3) := by decide +kernel
theorem dJ5_inflateIfNeededFor_a7421_3 : decode cJ5_inflateIfNeededFor_a7421 3 = .ok (.ifCond .eq 18, 3) := by decide +kernel
theorem dJ5_inflateIfNeededFor_a7421_6 : decode cJ5_inflateIfNeededFor_a7421 6 = .ok (.aload_n 0, 1) := by decide +kernel
theorem dJ5_inflateIfNeededFor_a7421_7 : decode cJ5_inflateIfNeededFor_a7421 7 = .ok (.getfield 22, 3) := by decide +kernel
theorem dJ5_inflateIfNeededFor_a7421_10 : decode cJ5_inflateIfNeededFor_a7421 10 = .ok (.aload_n 1, 1) := by decide +kernel
theorem dJ5_inflateIfNeededFor_a7421_11 : decode cJ5_inflateIfNeededFor_a7421 11 = .ok (.invokevirtual 40, 3) := by decide +kernel
theorem w_1267 : Cond.methodLink "java/lang/AbstractStringBuilder" 40 yJ0_coder_7d493 ∈ wAll := wI5 212 (by decide +kernel) (by decide +kernel)
theorem dJ5_inflateIfNeededFor_a7421_14 : decode cJ5_inflateIfNeededFor_a7421 14 = .ok (.if_icmp .eq 7, 3) := by decide +kernel
theorem dJ5_inflateIfNeededFor_a7421_21 : decode cJ5_inflateIfNeededFor_a7421 21 = .ok (.return_, 1) := by decide +kernel
theorem dJ0_getBytes_840e7_0 : decode cJ0_getBytes_840e7 0 = .ok (.aload_n 0, 1) := by decide +kernel
theorem dJ0_getBytes_840e7_1 : decode cJ0_getBytes_840e7 1 = .ok (.invokevirtual 335, 3) := by decide +kernel
theorem dJ0_getBytes_840e7_4 : decode cJ0_getBytes_840e7 4 = .ok (.iload_n 3, 1) := by decide +kernel
theorem dJ0_getBytes_840e7_5 : decode cJ0_getBytes_840e7 5 = .ok (.if_icmp .ne 23, 3) := by decide +kernel
theorem dJ0_getBytes_840e7_8 : decode cJ0_getBytes_840e7 8 = .ok (.aload_n 0, 1) := by decide +kernel
theorem dJ0_getBytes_840e7_9 : decode cJ0_getBytes_840e7 9 = .ok (.getfield 9, 3) := by decide +kernel
theorem dJ0_getBytes_840e7_12 : decode cJ0_getBytes_840e7 12 = .ok (.iconst 0, 1) := by decide +kernel
theorem dJ0_getBytes_840e7_13 : decode cJ0_getBytes_840e7 13 = .ok (.aload_n 1, 1) := by decide +kernel
theorem dJ0_getBytes_840e7_14 : decode cJ0_getBytes_840e7 14 = .ok (.iload_n 2, 1) := by decide +kernel
theorem dJ0_getBytes_840e7_15 : decode cJ0_getBytes_840e7 15 = .ok (.iload_n 3, 1) := by decide +kernel
theorem dJ0_getBytes_840e7_16 : decode cJ0_getBytes_840e7 16 = .ok (.ishl, 1) := by decide +kernel
theorem dJ0_getBytes_840e7_17 : decode cJ0_getBytes_840e7 17 = .ok (.aload_n 0, 1) := by decide +kernel
theorem dJ0_getBytes_840e7_18 : decode cJ0_getBytes_840e7 18 = .ok (.getfield 9, 3) := by decide +kernel
theorem dJ0_getBytes_840e7_21 : decode cJ0_getBytes_840e7 21 = .ok (.arraylength, 1) := by decide +kernel
theorem dJ0_getBytes_840e7_22 : decode cJ0_getBytes_840e7 22 = .ok (.invokestatic 212, 3) := by decide +kernel
theorem w_1272 : Cond.methodLink "java/lang/String" 212 ⟨"java/lang/System", "arraycopy", "(Ljava/lang/Object;ILjava/lang/Object;II)V"⟩ ∈ wAll := wI5 217 (by decide +kernel) (by decide +kernel)
theorem dJ0_getBytes_840e7_25 : decode cJ0_getBytes_840e7 25 = .ok (.goto 18, 3) := by decide +kernel
theorem dJ0_getBytes_840e7_43 : decode cJ0_getBytes_840e7 43 = .ok (.return_, 1) := by decide +kernel
theorem dJ5_putStringAt_47b60_0 : decode cJ5_putStringAt_47b60 0 = .ok (.aload_n 0, 1) := by decide +kernel
theorem dJ5_putStringAt_47b60_1 : decode cJ5_putStringAt_47b60 1 = .ok (.aload_n 2, 1) := by decide +kernel
theorem dJ5_putStringAt_47b60_2 : decode cJ5_putStringAt_47b60 2 = .ok (.invokevirtual 397, 3) := by decide +kernel
theorem w_1263 : Cond.methodLink "java/lang/AbstractStringBuilder" 397 yJ5_inflateIfNeededFor_a7421 ∈ wAll := wI5 208 (by decide +kernel) (by decide +kernel)
theorem mk_J5_inflateIfNeededFor_a7421 : mk yJ5_inflateIfNeededFor_a7421 1 := ⟨by decide +kernel, w_106⟩
theorem w_1265 : Cond.instanceMethod yJ5_inflateIfNeededFor_a7421 ∈ wAll := wI5 210 (by decide +kernel) (by decide +kernel)
theorem w_1266 : Cond.code yJ5_inflateIfNeededFor_a7421 cJ5_inflateIfNeededFor_a7421 2 none ∈ wAll := wI5 211 (by decide +kernel) (by decide +kernel)
theorem dJ5_putStringAt_47b60_5 : decode cJ5_putStringAt_47b60 5 = .ok (.aload_n 2, 1) := by decide +kernel
theorem dJ5_putStringAt_47b60_6 : decode cJ5_putStringAt_47b60 6 = .ok (.aload_n 0, 1) := by decide +kernel
theorem dJ5_putStringAt_47b60_7 : decode cJ5_putStringAt_47b60 7 = .ok (.getfield 15, 3) := by decide +kernel
theorem dJ5_putStringAt_47b60_10 : decode cJ5_putStringAt_47b60 10 = .ok (.iload_n 1, 1) := by decide +kernel
theorem dJ5_putStringAt_47b60_11 : decode cJ5_putStringAt_47b60 11 = .ok (.aload_n 0, 1) := by decide +kernel
theorem dJ5_putStringAt_47b60_12 : decode cJ5_putStringAt_47b60 12 = .ok (.getfield 22, 3) := by decide +kernel
theorem dJ5_putStringAt_47b60_15 : decode cJ5_putStringAt_47b60 15 = .ok (.invokevirtual 399, 3) := by decide +kernel
theorem w_1268 : Cond.methodLink "java/lang/AbstractStringBuilder" 399 yJ0_getBytes_840e7 ∈ wAll := wI5 213 (by decide +kernel) (by decide +kernel)
theorem w_1270 : Cond.selects yJ0_getBytes_840e7.cls yJ0_getBytes_840e7 yJ0_getBytes_840e7 ∈ wAll := wI5 215 (by decide +kernel) (by decide +kernel)
theorem mk_J0_getBytes_840e7 : mk yJ0_getBytes_840e7 3 := ⟨by decide +kernel, w_108⟩
theorem w_1269 : Cond.instanceMethod yJ0_getBytes_840e7 ∈ wAll := wI5 214 (by decide +kernel) (by decide +kernel)
theorem w_1271 : Cond.code yJ0_getBytes_840e7 cJ0_getBytes_840e7 4 none ∈ wAll := wI5 216 (by decide +kernel) (by decide +kernel)
theorem dJ5_putStringAt_47b60_18 : decode cJ5_putStringAt_47b60 18 = .ok (.return_, 1) := by decide +kernel
theorem dJ5_append_cf1ce_0 : decode cJ5_append_cf1ce 0 = .ok (.aload_n 1, 1) := by decide +kernel
theorem dJ5_append_cf1ce_1 : decode cJ5_append_cf1ce 1 = .ok (.ifnonnull 8, 3) := by decide +kernel
theorem dJ5_append_cf1ce_9 : decode cJ5_append_cf1ce 9 = .ok (.aload_n 1, 1) := by decide +kernel
theorem dJ5_append_cf1ce_10 : decode cJ5_append_cf1ce 10 = .ok (.invokevirtual 32, 3) := by decide +kernel
theorem w_1251 : Cond.methodLink "java/lang/AbstractStringBuilder" 32 yJ0_length_8abf5 ∈ wAll := wI5 196 (by decide +kernel) (by decide +kernel)
theorem dJ5_append_cf1ce_13 : decode cJ5_append_cf1ce 13 = .ok (.istore_n 2, 1) := by decide +kernel
theorem dJ5_append_cf1ce_14 : decode cJ5_append_cf1ce 14 = .ok (.aload_n 0, 1) := by decide +kernel
theorem dJ5_append_cf1ce_15 : decode cJ5_append_cf1ce 15 = .ok (.aload_n 0, 1) := by decide +kernel
theorem dJ5_append_cf1ce_16 : decode cJ5_append_cf1ce 16 = .ok (.getfield 79, 3) := by decide +kernel
theorem dJ5_append_cf1ce_19 : decode cJ5_append_cf1ce 19 = .ok (.iload_n 2, 1) := by decide +kernel
theorem dJ5_append_cf1ce_20 : decode cJ5_append_cf1ce 20 = .ok (.iadd, 1) := by decide +kernel
theorem dJ5_append_cf1ce_21 : decode cJ5_append_cf1ce 21 = .ok (.invokevirtual 100, 3) := by decide +kernel
theorem dJ5_append_cf1ce_24 : decode cJ5_append_cf1ce 24 = .ok (.aload_n 0, 1) := by decide +kernel
theorem dJ5_append_cf1ce_25 : decode cJ5_append_cf1ce 25 = .ok (.aload_n 0, 1) := by decide +kernel
theorem dJ5_append_cf1ce_26 : decode cJ5_append_cf1ce 26 = .ok (.getfield 79, 3) := by decide +kernel
theorem dJ5_append_cf1ce_29 : decode cJ5_append_cf1ce 29 = .ok (.aload_n 1, 1) := by decide +kernel
theorem dJ5_append_cf1ce_30 : decode cJ5_append_cf1ce 30 = .ok (.invokevirtual 208, 3) := by decide +kernel
theorem w_1259 : Cond.methodLink "java/lang/AbstractStringBuilder" 208 yJ5_putStringAt_47b60 ∈ wAll := wI5 204 (by decide +kernel) (by decide +kernel)
theorem mk_J5_putStringAt_47b60 : mk yJ5_putStringAt_47b60 2 := ⟨by decide +kernel, w_106⟩
theorem w_1261 : Cond.instanceMethod yJ5_putStringAt_47b60 ∈ wAll := wI5 206 (by decide +kernel) (by decide +kernel)
theorem w_1262 : Cond.code yJ5_putStringAt_47b60 cJ5_putStringAt_47b60 3 none ∈ wAll := wI5 207 (by decide +kernel) (by decide +kernel)
theorem dJ5_append_cf1ce_33 : decode cJ5_append_cf1ce 33 = .ok (.aload_n 0, 1) := by decide +kernel
theorem dJ5_append_cf1ce_34 : decode cJ5_append_cf1ce 34 = .ok (.dup, 1) := by decide +kernel
theorem dJ5_append_cf1ce_35 : decode cJ5_append_cf1ce 35 = .ok (.getfield 79, 3) := by decide +kernel
theorem dJ5_append_cf1ce_38 : decode cJ5_append_cf1ce 38 = .ok (.iload_n 2, 1) := by decide +kernel
theorem dJ5_append_cf1ce_39 : decode cJ5_append_cf1ce 39 = .ok (.iadd, 1) := by decide +kernel
theorem dJ5_append_cf1ce_40 : decode cJ5_append_cf1ce 40 = .ok (.putfield 79, 3) := by decide +kernel
theorem dJ5_append_cf1ce_43 : decode cJ5_append_cf1ce 43 = .ok (.aload_n 0, 1) := by decide +kernel
theorem dJ5_append_cf1ce_44 : decode cJ5_append_cf1ce 44 = .ok (.areturn, 1) := by decide +kernel
theorem dJ5_length_8abf5_0 : decode cJ5_length_8abf5 0 = .ok (.aload_n 0, 1) := by decide +kernel
theorem dJ5_length_8abf5_1 : decode cJ5_length_8abf5 1 = .ok (.getfield 79, 3) := by decide +kernel
theorem dJ5_length_8abf5_4 : decode cJ5_length_8abf5 4 = .ok (.ireturn, 1) := by decide +kernel
theorem dJ5_charAt_5068e_0 : decode cJ5_charAt_5068e 0 = .ok (.aload_n 0, 1) := by decide +kernel
theorem dJ5_charAt_5068e_1 : decode cJ5_charAt_5068e 1 = .ok (.getfield 22, 3) := by decide +kernel
theorem dJ5_charAt_5068e_4 : decode cJ5_charAt_5068e 4 = .ok (.istore_n 2, 1) := by decide +kernel
theorem dJ5_charAt_5068e_5 : decode cJ5_charAt_5068e 5 = .ok (.aload_n 0, 1) := by decide +kernel
theorem dJ5_charAt_5068e_6 : decode cJ5_charAt_5068e 6 = .ok (.getfield 15, 3) := by decide +kernel
theorem dJ5_charAt_5068e_9 : decode cJ5_charAt_5068e 9 = .ok (.astore_n 3, 1) := by decide +kernel
theorem dJ5_charAt_5068e_10 : decode cJ5_charAt_5068e 10 = .ok (.aload_n 0, 1) := by decide +kernel
theorem dJ5_charAt_5068e_11 : decode cJ5_charAt_5068e 11 = .ok (.getfield 79, 3) := by decide +kernel
theorem dJ5_charAt_5068e_14 : decode cJ5_charAt_5068e 14 = .ok (.aload_n 3, 1) := by decide +kernel
theorem dJ5_charAt_5068e_15 : decode cJ5_charAt_5068e 15 = .ok (.arraylength, 1) := by decide +kernel
theorem dJ5_charAt_5068e_16 : decode cJ5_charAt_5068e 16 = .ok (.iload_n 2, 1) := by decide +kernel
theorem dJ5_charAt_5068e_17 : decode cJ5_charAt_5068e 17 = .ok (.ishr, 1) := by decide +kernel
theorem dJ5_charAt_5068e_18 : decode cJ5_charAt_5068e 18 = .ok (.invokestatic 138, 3) := by decide +kernel
theorem w_1282 : Cond.methodLink "java/lang/AbstractStringBuilder" 138 yJ9_min_7cf53 ∈ wAll := wI5 227 (by decide +kernel) (by decide +kernel)
theorem dJ5_charAt_5068e_21 : decode cJ5_charAt_5068e 21 = .ok (.istore 4, 2) := by decide +kernel
theorem dJ5_charAt_5068e_23 : decode cJ5_charAt_5068e 23 = .ok (.iload_n 1, 1) := by decide +kernel
theorem dJ5_charAt_5068e_24 : decode cJ5_charAt_5068e 24 = .ok (.iload 4, 2) := by decide +kernel
theorem dJ5_charAt_5068e_26 : decode cJ5_charAt_5068e 26 = .ok (.invokestatic 144, 3) := by decide +kernel
theorem w_1283 : Cond.methodLink "java/lang/AbstractStringBuilder" 144 yJ0_checkIndex_df160 ∈ wAll := wI5 228 (by decide +kernel) (by decide +kernel)
theorem dJ5_charAt_5068e_29 : decode cJ5_charAt_5068e 29 = .ok (.iload_n 2, 1) := by decide +kernel
theorem dJ5_charAt_5068e_30 : decode cJ5_charAt_5068e 30 = .ok (.ifCond .ne 12, 3) := by decide +kernel
theorem dJ5_charAt_5068e_33 : decode cJ5_charAt_5068e 33 = .ok (.aload_n 3, 1) := by decide +kernel
theorem dJ5_charAt_5068e_34 : decode cJ5_charAt_5068e 34 = .ok (.iload_n 1, 1) := by decide +kernel
theorem dJ5_charAt_5068e_35 : decode cJ5_charAt_5068e 35 = .ok (.baload, 1) := by decide +kernel
theorem dJ5_charAt_5068e_36 : decode cJ5_charAt_5068e 36 = .ok (.sipush 255, 3) := by decide +kernel
theorem dJ5_charAt_5068e_39 : decode cJ5_charAt_5068e 39 = .ok (.iand, 1) := by decide +kernel
theorem dJ5_charAt_5068e_40 : decode cJ5_charAt_5068e 40 = .ok (.i2c, 1) := by decide +kernel
theorem dJ5_charAt_5068e_41 : decode cJ5_charAt_5068e 41 = .ok (.ireturn, 1) := by decide +kernel
theorem dJ5_setLength_d00df_0 : decode cJ5_setLength_d00df 0 = .ok (.iload_n 1, 1) := by decide +kernel
theorem dJ5_setLength_d00df_1 : decode cJ5_setLength_d00df 1 = .ok (.ifCond .ge 12, 3) := by decide +kernel
theorem dJ5_setLength_d00df_13 : decode cJ5_setLength_d00df 13 = .ok (.aload_n 0, 1) := by decide +kernel
theorem dJ5_setLength_d00df_14 : decode cJ5_setLength_d00df 14 = .ok (.iload_n 1, 1) := by decide +kernel
theorem dJ5_setLength_d00df_15 : decode cJ5_setLength_d00df 15 = .ok (.invokevirtual 100, 3) := by decide +kernel
theorem dJ5_setLength_d00df_18 : decode cJ5_setLength_d00df 18 = .ok (.aload_n 0, 1) := by decide +kernel
theorem dJ5_setLength_d00df_19 : decode cJ5_setLength_d00df 19 = .ok (.getfield 79, 3) := by decide +kernel
theorem dJ5_setLength_d00df_22 : decode cJ5_setLength_d00df 22 = .ok (.iload_n 1, 1) := by decide +kernel
theorem dJ5_setLength_d00df_23 : decode cJ5_setLength_d00df 23 = .ok (.if_icmp .ge 40, 3) := by decide +kernel
theorem dJ5_setLength_d00df_63 : decode cJ5_setLength_d00df 63 = .ok (.aload_n 0, 1) := by decide +kernel
theorem dJ5_setLength_d00df_64 : decode cJ5_setLength_d00df 64 = .ok (.getfield 79, 3) := by decide +kernel
theorem dJ5_setLength_d00df_67 : decode cJ5_setLength_d00df 67 = .ok (.iload_n 1, 1) := by decide +kernel
theorem dJ5_setLength_d00df_68 : decode cJ5_setLength_d00df 68 = .ok (.if_icmp .le 8, 3) := by decide +kernel
theorem dJ5_setLength_d00df_76 : decode cJ5_setLength_d00df 76 = .ok (.aload_n 0, 1) := by decide +kernel
theorem dJ5_setLength_d00df_77 : decode cJ5_setLength_d00df 77 = .ok (.iload_n 1, 1) := by decide +kernel
theorem dJ5_setLength_d00df_78 : decode cJ5_setLength_d00df 78 = .ok (.putfield 79, 3) := by decide +kernel
theorem dJ5_setLength_d00df_71 : decode cJ5_setLength_d00df 71 = .ok (.aload_n 0, 1) := by decide +kernel
theorem dJ5_setLength_d00df_72 : decode cJ5_setLength_d00df 72 = .ok (.iconst 1, 1) := by decide +kernel
theorem dJ5_setLength_d00df_73 : decode cJ5_setLength_d00df 73 = .ok (.putfield 73, 3) := by decide +kernel
theorem w_367 : Cond.fieldLink "java/lang/AbstractStringBuilder" 73 "java/lang/AbstractStringBuilder" "maybeLatin1" "Z" ∈ wAll := wI2 32 (by decide +kernel) (by decide +kernel)
theorem flw_J5_73 : flw RJ5 73 0 2 (.boolean) := ⟨RJ4, TJ4, 4, tyJ4, rfl, inA_J4, by decide, w_367, tyJ4_ok, nmJ4, by decide +kernel, Or.inl rfl⟩
theorem dJ5_setLength_d00df_81 : decode cJ5_setLength_d00df 81 = .ok (.return_, 1) := by decide +kernel
abbrev rm_s_J5_inflateIfNeededFor_a7421X : Room := { frames := 1, cells := 0, slots := 0, locals := 20 }
set_option maxRecDepth 100000 in
set_option maxHeartbeats 4000000 in
theorem s_J5_inflateIfNeededFor_a7421X (l : Launch) (D : va_G) (G : Nat → Nat) (b0 : Nat) (τ : Nat → Nat) (f : hM) (t : TI G 9 τ f) (u0 : Nat) (hu0 : τ u0 = 52) : mV l yJ5_inflateIfNeededFor_a7421 cJ5_inflateIfNeededFor_a7421 2 rm_s_J5_inflateIfNeededFor_a7421X D G b0 f [.ref u0, .ref (G (20 + 10))] (fun f1 => TI G 9 τ f1 ∧ Fr [] τ f f1) := by
  refine met2 (own := RJ5) (by decide) rfl (Nat.le_of_ble_eq_true rfl) ?_
  intro p e s m args below meth c ls Q hQ C hr hini hl h
  have hl : lv_has ls 2 [(0, .ref u0), (1, .ref (G (20 + 10)))] := hl
  obtain ⟨hx, hb, hml, hown, hts, hE0, hlk⟩ := id C
  have o := Fr.rf [] τ f
  refine va_gets hx hb hE0.2.1 h.2.2.1 hown (hts _ w_356) (fun _ h9 => h9) dJ5_inflateIfNeededFor_a7421_0 ?_
  refine lv_if_eq (tgt := 21) hx hb dJ5_inflateIfNeededFor_a7421_3 (by decide) (fun c1 => ?_) (fun c1 => ?_)
  · exact absurd c1 (by decide)
  · refine lv_aload_n hx hb dJ5_inflateIfNeededFor_a7421_6 rfl (lv_at hl 0 rfl) ?_
    refine t_geti C h t hu0 (by decide) wf_52 rfl fl_J5_22 dJ5_inflateIfNeededFor_a7421_7 (fun z4 iz4 => ?_)
    obtain rfl : (0 : Int32) = z4 := Int32.toInt_inj.mp (by have n_ : (0 : Int32).toInt = 0 := rfl; omega)
    refine lv_aload_n hx hb dJ5_inflateIfNeededFor_a7421_10 rfl (lv_at hl 1 rfl) ?_
    have hrv := vk_recv hE0.2.2.2.2.2.2.2.2.2.1 (i := 10) (by decide) h.2.2.1
    refine k_i (r_VK C h hl (As := []) (rest := [.int 0]) (c_coder l D G b0 f 10 (by decide)) hrv mk_J0_coder_7d493 w_1267 w_1256 w_1257 w_1258 ⟨(Nat.le_of_ble_eq_true rfl), (Nat.le_of_ble_eq_true rfl)⟩ rfl (Nat.le_of_ble_eq_true rfl) ⟨(Nat.le_of_ble_eq_true rfl), (Nat.le_of_ble_eq_true rfl)⟩ rfl dJ5_inflateIfNeededFor_a7421_11) h (fun r5 f6 H locs p7 h => ?_)
    obtain ⟨er5, rfl⟩ := p7
    obtain rfl : (0 : Int32) = r5 := er5.symm
    refine lv_icmp_eq (tgt := 21) hx hb dJ5_inflateIfNeededFor_a7421_14 (by decide) (fun c8 => ?_) (fun c8 => ?_)
    · exact u_vret C h hr hQ (⟨t, o⟩) (Nat.le_of_ble_eq_true rfl) (Nat.le_of_ble_eq_true rfl) dJ5_inflateIfNeededFor_a7421_21
    · exact absurd c8 (by decide)
abbrev rm_s_J0_getBytes_840e7X : Room := { frames := 1, cells := 0, slots := 0, locals := 60 }
set_option maxRecDepth 100000 in
set_option maxHeartbeats 4000000 in
theorem s_J0_getBytes_840e7X (l : Launch) (D : va_G) (G : Nat → Nat) (b0 : Nat) (τ : Nat → Nat) (f : hM) (t : TI G 9 τ f) (u1 : Nat) (hu1 : τ u1 = 53) (u2 : Int32) (hu2 : iv u2 0 43) (u3 : Int32) (hu3 : iv u3 0 0) (nrv : Nat) (rv : Nat → Int32) (hRu1 : atp f u1 (bvr G nrv rv)) (hr0 : u2.toInt + 7 ≤ (nrv : Int)) : mV l yJ0_getBytes_840e7 cJ0_getBytes_840e7 4 rm_s_J0_getBytes_840e7X D G b0 f [.ref (G (20 + 10)), .ref u1, .int u2, .int u3] (fun f1 => TI G 9 τ f1 ∧ Fr [53] τ f f1 ∧ (∃ rv1 : Nat → Int32, atp f1 u1 (bvr G nrv rv1) ∧ True)) := by
  refine met2 (own := RJ0) (by decide) rfl (Nat.le_of_ble_eq_true rfl) ?_
  intro p e s m args below meth c ls Q hQ C hr hini hl h
  have hl : lv_has ls 4 [(0, .ref (G (20 + 10))), (1, .ref u1), (2, .int u2), (3, .int u3)] := hl
  obtain ⟨hx, hb, hml, hown, hts, hE0, hlk⟩ := id C
  have o := Fr.rf [53] τ f
  refine lv_aload_n hx hb dJ0_getBytes_840e7_0 rfl (lv_at hl 0 rfl) ?_
  have hrv := vk_recv hE0.2.2.2.2.2.2.2.2.2.1 (i := 10) (by decide) h.2.2.1
  refine k_i (r_VK C h hl (As := []) (rest := []) (c_coder l D G b0 f 10 (by decide)) hrv mk_J0_coder_7d493 w_1255 w_1256 w_1257 w_1258 ⟨(Nat.le_of_ble_eq_true rfl), (Nat.le_of_ble_eq_true rfl)⟩ rfl (Nat.le_of_ble_eq_true rfl) ⟨(Nat.le_of_ble_eq_true rfl), (Nat.le_of_ble_eq_true rfl)⟩ rfl dJ0_getBytes_840e7_1) h (fun r1 f2 H locs p3 h => ?_)
  obtain ⟨er1, rfl⟩ := p3
  obtain rfl : (0 : Int32) = r1 := er1.symm
  refine lv_iload_n hx hb dJ0_getBytes_840e7_4 rfl (lv_at hl 3 rfl) ?_
  refine lv_icmp_ne (tgt := 28) hx hb dJ0_getBytes_840e7_5 (by decide) (fun c4 => ?_) (fun c4 => ?_)
  · have c5 : 0 ≠ u3.toInt := fun z_ => c4 (Int32.toInt_inj.mp z_)
    exact (iv_cn_ c5 (iv_k (x := 0) (k := 0) rfl) hu3 (by decide)).elim
  · have c6 : 0 = u3.toInt := congrArg Int32.toInt c4
    refine lv_aload_n hx hb dJ0_getBytes_840e7_8 rfl (lv_at hl 0 rfl) ?_
    refine vk_getf hx hb (hE0.2.2.2.2.2.2.2.2.2.1.1 10 (by decide)).2.2.1 h.2.2.1 hown (hts _ w_2089) (fun _ h9 => h9) dJ0_getBytes_840e7_9 ?_
    refine lv_iconst (v := 0) hx hb dJ0_getBytes_840e7_12 (by decide) ?_
    refine lv_aload_n hx hb dJ0_getBytes_840e7_13 rfl (lv_at hl 1 rfl) ?_
    refine lv_iload_n hx hb dJ0_getBytes_840e7_14 rfl (lv_at hl 2 rfl) ?_
    refine lv_iload_n hx hb dJ0_getBytes_840e7_15 rfl (lv_at hl 3 rfl) ?_
    refine lv_ishl hx hb dJ0_getBytes_840e7_16 (i_topm (P := fun q_ => q_ = Int32.toInt u2) (show _ ∧ _ by rw [show u3 = 0 from Int32.toInt_inj.mp (by have n_ : (0 : Int32).toInt = 0 := rfl; omega), sb_shl0]; exact ⟨rfl, hu2⟩) (fun z7 ez7 mz7 iz7 => ?_))
    refine lv_aload_n hx hb dJ0_getBytes_840e7_17 rfl (lv_at hl 0 rfl) ?_
    refine vk_getf hx hb (hE0.2.2.2.2.2.2.2.2.2.1.1 10 (by decide)).2.2.1 h.2.2.1 hown (hts _ w_2089) (fun _ h9 => h9) dJ0_getBytes_840e7_18 ?_
    refine va_tlen hx hb (hE0.2.2.2.2.2.2.2.2.2.1.1 10 (by decide)).2.2.2 h.2.2.1 (v := 7) (by decide) dJ0_getBytes_840e7_21 ?_
    have hb1 := bv_at t hu1 hRu1
    have hc5 : Int32.toNatClampNeg z7 + (7 : Int32).toNatClampNeg ≤ nrv := by show Int.toNat _ + 7 ≤ _; omega
    have hc2 : ¬ z7 < 0 := fun z_ => by have h_ := Int32.lt_iff_toInt_lt.mp z_; have n_ : (0 : Int32).toInt = 0 := rfl; omega
    refine q_copyT C h hl w_1272 w_552 w_551 w_116 (hE0.2.2.2.2.2.2.2.2.2.1.1 10 (by decide)).2.2.2 (eqc_some hRu1) (sp := 0) (n := 7) (by decide) hc2 (by decide) (by decide) hc5 (tx_fit 10 (by decide)) (Nat.le_of_ble_eq_true rfl) (Nat.le_of_ble_eq_true rfl) dJ0_getBytes_840e7_22 (fun H locs h => ?_)
    have tf8 := TI.bv t hu1 hb1.1 (byt_cpy (tx_byt 10 (by decide)) hb1.2 (0 : Int32).toNatClampNeg (Int32.toNatClampNeg z7) (7 : Int32).toNatClampNeg)
    have of8 := Fr.upA (e := (.inl (G 0, nrv, .inl (va_cpy (fun j => (str_byt.getD 10 []).getD j 0) rv (0 : Int32).toNatClampNeg (Int32.toNatClampNeg z7) (7 : Int32).toNatClampNeg)))) o hu1 (by decide) (eqc_some hRu1)
    have hq := hu_tg (f := f) hu1 (.inl (G 0, nrv, .inl (va_cpy (fun j => (str_byt.getD 10 []).getD j 0) rv (0 : Int32).toNatClampNeg (Int32.toNatClampNeg z7) (7 : Int32).toNatClampNeg)))
    have hn_ : ∀ q, q ≠ u1 → hu f u1 (.inl (G 0, nrv, .inl (va_cpy (fun j => (str_byt.getD 10 []).getD j 0) rv (0 : Int32).toNatClampNeg (Int32.toNatClampNeg z7) (7 : Int32).toNatClampNeg))) q = f q := fun q hq_ => hu_ne hq_
    have kzf8 : atp (hu f u1 (.inl (G 0, nrv, .inl (va_cpy (fun j => (str_byt.getD 10 []).getD j 0) rv (0 : Int32).toNatClampNeg (Int32.toNatClampNeg z7) (7 : Int32).toNatClampNeg)))) u1 (bvr G nrv (va_cpy (fun j => (str_byt.getD 10 []).getD j 0) rv (0 : Int32).toNatClampNeg (Int32.toNatClampNeg z7) (7 : Int32).toNatClampNeg)) := ⟨_, hu_self _ _ _, rfl⟩
    generalize hu f u1 (.inl (G 0, nrv, .inl (va_cpy (fun j => (str_byt.getD 10 []).getD j 0) rv (0 : Int32).toNatClampNeg (Int32.toNatClampNeg z7) (7 : Int32).toNatClampNeg))) = f8 at h tf8 of8 hq hn_ kzf8
    generalize ewf8 : (va_cpy (fun j => (str_byt.getD 10 []).getD j 0) rv (0 : Int32).toNatClampNeg (Int32.toNatClampNeg z7) (7 : Int32).toNatClampNeg) = rwf8 at kzf8
    refine lv_goto (tgt := 43) hx hb dJ0_getBytes_840e7_25 (by decide) ?_
    exact u_vret C h hr hQ (⟨tf8, of8, ⟨rwf8, kzf8, trivial⟩⟩) (Nat.le_of_ble_eq_true rfl) (Nat.le_of_ble_eq_true rfl) dJ0_getBytes_840e7_43
abbrev rm_s_J5_putStringAt_47b60X : Room := { frames := 2, cells := 0, slots := 0, locals := 83 }
set_option maxRecDepth 100000 in
set_option maxHeartbeats 4000000 in
theorem s_J5_putStringAt_47b60X (l : Launch) (D : va_G) (G : Nat → Nat) (b0 : Nat) (τ : Nat → Nat) (f : hM) (t : TI G 9 τ f) (u0 : Nat) (hu0 : τ u0 = 52) (u1 : Int32) (hu1 : iv u1 0 43) (vq : Nat) (hvq : τ vq = 53) (k_u0_0 : atp f u0 (fd 0 (.ref vq))) (nrv : Nat) (rv : Nat → Int32) (hRvq : atp f vq (bvr G nrv rv)) (hr0 : u1.toInt + 7 ≤ (nrv : Int)) : mV l yJ5_putStringAt_47b60 cJ5_putStringAt_47b60 3 rm_s_J5_putStringAt_47b60X D G b0 f [.ref u0, .int u1, .ref (G (20 + 10))] (fun f1 => TI G 9 τ f1 ∧ Fr [53] τ f f1 ∧ (∃ rv1 : Nat → Int32, atp f1 vq (bvr G nrv rv1) ∧ True)) := by
  refine met2 (own := RJ5) (by decide) rfl (Nat.le_of_ble_eq_true rfl) ?_
  intro p e s m args below meth c ls Q hQ C hr hini hl h
  have hl : lv_has ls 3 [(0, .ref u0), (1, .int u1), (2, .ref (G (20 + 10)))] := hl
  obtain ⟨hx, hb, hml, hown, hts, hE0, hlk⟩ := id C
  have o := Fr.rf [53] τ f
  refine lv_aload_n hx hb dJ5_putStringAt_47b60_0 rfl (lv_at hl 0 rfl) ?_
  refine lv_aload_n hx hb dJ5_putStringAt_47b60_1 rfl (lv_at hl 2 rfl) ?_
  obtain ⟨_, r1⟩ := t_rec t hu0 (by decide) wf_52
  refine k_v (r_VP C h hl (As := [.ref (G (20 + 10))]) (rest := []) (s_J5_inflateIfNeededFor_a7421X l D G b0 τ f t u0 hu0) r1 (Cn := RJ4) (T := TJ4) (N := 4) rfl mk_J5_inflateIfNeededFor_a7421 w_1263 w_1265 (va_Nw.use (A := args) rfl (hE0.2.2.2.2.2.2.2.2.2.2.2.2.2.2.2.2.2 yJ5_inflateIfNeededFor_a7421 (by simp [sel_l, yJ5_inflateIfNeededFor_a7421, RJ5]))) w_1266 ⟨Nat.le_of_ble_eq_true rfl, Nat.le_of_ble_eq_true rfl⟩ rfl (Nat.le_of_ble_eq_true rfl) ⟨Nat.le_of_ble_eq_true rfl, Nat.le_of_ble_eq_true rfl⟩ rfl dJ5_putStringAt_47b60_2) h (fun f3 H locs p4 h => ?_)
  obtain ⟨tf3, ogf3⟩ := p4
  have egf3 := Fr.nil2 ogf3
  subst egf3
  refine lv_aload_n hx hb dJ5_putStringAt_47b60_5 rfl (lv_at hl 2 rfl) ?_
  refine lv_aload_n hx hb dJ5_putStringAt_47b60_6 rfl (lv_at hl 0 rfl) ?_
  refine t_getfd C h t hu0 (by decide) wf_52 (v := .ref vq) k_u0_0 fl_J5_15 dJ5_putStringAt_47b60_7 ?_
  refine lv_iload_n hx hb dJ5_putStringAt_47b60_10 rfl (lv_at hl 1 rfl) ?_
  refine lv_aload_n hx hb dJ5_putStringAt_47b60_11 rfl (lv_at hl 0 rfl) ?_
  refine t_geti C h t hu0 (by decide) wf_52 rfl fl_J5_22 dJ5_putStringAt_47b60_12 (fun z5 iz5 => ?_)
  obtain rfl : (0 : Int32) = z5 := Int32.toInt_inj.mp (by have n_ : (0 : Int32).toInt = 0 := rfl; omega)
  have hrv := vk_recv hE0.2.2.2.2.2.2.2.2.2.1 (i := 10) (by decide) h.2.2.1
  refine k_v (r_VK C h hl (As := [.ref vq, .int u1, .int 0]) (rest := []) (s_J0_getBytes_840e7X l D G b0 τ f t vq hvq u1 hu1 0 (iv_w (iv_k (x := 0) (k := 0) rfl) (by decide)) nrv rv hRvq (show u1.toInt + 7 ≤ (nrv : Int) from (by omega))) hrv mk_J0_getBytes_840e7 w_1268 w_1269 w_1270 w_1271 ⟨Nat.le_of_ble_eq_true rfl, Nat.le_of_ble_eq_true rfl⟩ rfl (Nat.le_of_ble_eq_true rfl) ⟨Nat.le_of_ble_eq_true rfl, Nat.le_of_ble_eq_true rfl⟩ rfl dJ5_putStringAt_47b60_15) h (fun f7 H locs p8 h => ?_)
  obtain ⟨tf7, ogf7, ⟨rv1_f7, kRu1f7, pRu1f7⟩⟩ := p8
  have of7 : Fr [53] τ f f7 := Fr.tr o ogf7 (by decide) (by decide)
  have k9 := atp.fr k_u0_0 ogf7 hu0 (by decide)
  exact u_vret C h hr hQ (⟨tf7, of7, ⟨rv1_f7, kRu1f7, trivial⟩⟩) (Nat.le_of_ble_eq_true rfl) (Nat.le_of_ble_eq_true rfl) dJ5_putStringAt_47b60_18
abbrev rm_s_J5_append_cf1ceX : Room := { frames := 4, cells := 1, slots := 100, locals := 105 }
set_option maxRecDepth 100000 in
set_option maxHeartbeats 4000000 in
theorem s_J5_append_cf1ceX (l : Launch) (D : va_G) (G : Nat → Nat) (b0 : Nat) (τ : Nat → Nat) (f : hM) (t : TI G 9 τ f) (u0 : Nat) (hu0 : τ u0 = 52) (ct : Int32) (hct : iv ct 0 43) (k_u0_3 : atp f u0 (fd 3 (.int ct))) (hCP : CPs G τ f u0) : mQ l yJ5_append_cf1ce cJ5_append_cf1ce 3 (.object "java/lang/AbstractStringBuilder") rm_s_J5_append_cf1ceX D G b0 f [.ref u0, .ref (G (20 + 10))] (fun r f1 => (∃ τ1, Ex τ τ1 ∧ (∃ z, r = some z ∧ τ1 z = 52) ∧ TI G 9 τ1 f1 ∧ Fr [0, 52, 53, 52001, 52004] τ f f1 ∧ (∃ ct1 : Int32, atp f1 u0 (fd 3 (.int ct1)) ∧ iv ct1 0 50 ∧ ct1.toInt = ct.toInt + 7) ∧ CPs G τ1 f1 u0)) := by
  refine met2 (own := RJ5) (by decide) rfl (Nat.le_of_ble_eq_true rfl) ?_
  intro p e s m args below meth c ls Q hQ C hr hini hl h
  have hl : lv_has ls 3 [(0, .ref u0), (1, .ref (G (20 + 10)))] := hl
  obtain ⟨hx, hb, hml, hown, hts, hE0, hlk⟩ := id C
  have o := Fr.rf [0, 52, 53, 52001, 52004] τ f
  obtain ⟨vq, nrv, rv, ctz, hvq, k_u0_0, hRvq, kctz, hcn⟩ := hCP
  obtain rfl := fd_int k_u0_3 kctz
  have hbv := (bv_at t hvq hRvq).1
  refine lv_aload_n hx hb dJ5_append_cf1ce_0 rfl (lv_at hl 1 rfl) ?_
  refine lv_ifnonnull (tgt := 9) hx hb dJ5_append_cf1ce_1 (by decide) ?_
  refine lv_aload_n hx hb dJ5_append_cf1ce_9 rfl (lv_at hl 1 rfl) ?_
  have hrv := vk_recv hE0.2.2.2.2.2.2.2.2.2.1 (i := 10) (by decide) h.2.2.1
  refine k_i (r_VK C h hl (As := []) (rest := []) (c_length l D G b0 f 10 (by decide)) hrv mk_J0_length_8abf5 w_1251 w_1252 w_1253 w_1254 ⟨(Nat.le_of_ble_eq_true rfl), (Nat.le_of_ble_eq_true rfl)⟩ rfl (Nat.le_of_ble_eq_true rfl) ⟨(Nat.le_of_ble_eq_true rfl), (Nat.le_of_ble_eq_true rfl)⟩ rfl dJ5_append_cf1ce_10) h (fun ra_1 fa_2 H locs pa_3 h => ?_)
  obtain ⟨era_1, rfl⟩ := pa_3
  obtain rfl : (7 : Int32) = ra_1 := by rw [era_1]; decide
  refine lv_istore_n (lv' := [(2, .int 7), (0, .ref u0), (1, .ref (G (20 + 10)))]) hx hb dJ5_append_cf1ce_13 rfl hl (by decide) rfl (fun ls hl => ?_)
  refine lv_aload_n hx hb dJ5_append_cf1ce_14 rfl (lv_at hl 1 rfl) ?_
  refine lv_aload_n hx hb dJ5_append_cf1ce_15 rfl (lv_at hl 1 rfl) ?_
  refine t_getfd C h t hu0 (by decide) wf_52 (v := .int ct) k_u0_3 fl_J5_79 dJ5_append_cf1ce_16 ?_
  refine lv_iload_n hx hb dJ5_append_cf1ce_19 rfl (lv_at hl 0 rfl) ?_
  refine i_addk hx hb dJ5_append_cf1ce_20 hct (k := 7) rfl (lo := 7) (hi := 50) (by decide) (fun za_4 eza_4 mza_4 iza_4 => ?_)
  obtain ⟨_, ra_5⟩ := t_rec t hu0 (by decide) wf_52
  refine k_v (r_VP C h hl (As := [.int za_4]) (rest := []) (s_J5_ensureCapacityInternal_d00dfX l D G b0 τ f t u0 hu0 za_4 (iv_w iza_4 (by decide)) ct (iv_w hct (by decide)) k_u0_3) ra_5 (Cn := RJ4) (T := TJ4) (N := 4) rfl mk_J5_ensureCapacityInternal_d00df w_1107 w_1109 (va_Nw.use (A := args) rfl (hE0.2.2.2.2.2.2.2.2.2.2.2.2.2.2.2.2.2 yJ5_ensureCapacityInternal_d00df (by simp [sel_l, yJ5_ensureCapacityInternal_d00df, RJ5]))) w_1110 ⟨Nat.le_of_ble_eq_true rfl, Nat.le_of_ble_eq_true rfl⟩ rfl (Nat.le_of_ble_eq_true rfl) ⟨Nat.le_of_ble_eq_true rfl, Nat.le_of_ble_eq_true rfl⟩ rfl dJ5_append_cf1ce_21) h (fun fa_7 H locs pa_8 h => ?_)
  obtain ⟨τfa_7, exfa_7, tfa_7, ogfa_7, x0ra_6, ⟨ct1_fa_7, kpu0_3fa_7, ipu0_3fa_7, rpu0_3fa_7⟩⟩ := pa_8
  have ofa_7 : Fr [0, 52, 53, 52001, 52004] τ f fa_7 := Fr.tr o ogfa_7 (by decide) (by decide)
  have ka_9 := atp.fk k_u0_3 ogfa_7 hu0 (by decide) (by decide)
  have Ofa_7 : Fr [0, 52, 53, 52001, 52004] τ f fa_7 := ofa_7
  have xfa_7 : Ex τ τfa_7 := exfa_7
  have ha_10 : τfa_7 u0 = 52 := Ex.at exfa_7 hu0 (by decide)
  have ha_11 : τfa_7 vq = 53 := Ex.at exfa_7 hvq (by decide)
  have ofa_7z := Fr.rf [0, 52, 53, 52001, 52004] τfa_7 fa_7
  obtain ⟨vqfa_7, nfa_7, rfa_7, tvfa_7, kvfa_7, krfa_7, cvfa_7⟩ := x0ra_6
  refine lv_aload_n hx hb dJ5_append_cf1ce_24 rfl (lv_at hl 1 rfl) ?_
  refine lv_aload_n hx hb dJ5_append_cf1ce_25 rfl (lv_at hl 1 rfl) ?_
  refine t_getfd C h tfa_7 ha_10 (by decide) wf_52 (v := .int ct1_fa_7) kpu0_3fa_7 fl_J5_79 dJ5_append_cf1ce_26 ?_
  refine lv_aload_n hx hb dJ5_append_cf1ce_29 rfl (lv_at hl 2 rfl) ?_
  obtain ⟨_, ra_12⟩ := t_rec tfa_7 ha_10 (by decide) wf_52
  refine k_v (r_VP C h hl (As := [.int ct1_fa_7, .ref (G (20 + 10))]) (rest := []) (s_J5_putStringAt_47b60X l D G b0 τfa_7 fa_7 tfa_7 u0 ha_10 ct1_fa_7 (show iv ct1_fa_7 0 43 from by omega) vqfa_7 tvfa_7 kvfa_7 nfa_7 rfa_7 krfa_7 (by omega)) ra_12 (Cn := RJ4) (T := TJ4) (N := 4) rfl mk_J5_putStringAt_47b60 w_1259 w_1261 (va_Nw.use (A := args) rfl (hE0.2.2.2.2.2.2.2.2.2.2.2.2.2.2.2.2.2 yJ5_putStringAt_47b60 (by simp [sel_l, yJ5_putStringAt_47b60, RJ5]))) w_1262 ⟨Nat.le_of_ble_eq_true rfl, Nat.le_of_ble_eq_true rfl⟩ rfl (Nat.le_of_ble_eq_true rfl) ⟨Nat.le_of_ble_eq_true rfl, Nat.le_of_ble_eq_true rfl⟩ rfl dJ5_append_cf1ce_30) h (fun fa_14 H locs pa_15 h => ?_)
  obtain ⟨tfa_14, ogfa_14, ⟨rv1_fa_14, kRvqfa_14, pRvqfa_14⟩⟩ := pa_15
  have ofa_14 : Fr [0, 52, 53, 52001, 52004] τfa_7 fa_7 fa_14 := Fr.tr ofa_7z ogfa_14 (by decide) (by decide)
  have ka_16 := atp.fr kpu0_3fa_7 ogfa_14 ha_10 (by decide)
  have ka_17 := atp.fr kvfa_7 ogfa_14 ha_10 (by decide)
  refine lv_aload_n hx hb dJ5_append_cf1ce_33 rfl (lv_at hl 1 rfl) ?_
  refine lv_dup hx hb dJ5_append_cf1ce_34 rfl ?_
  refine t_getfd C h tfa_14 ha_10 (by decide) wf_52 (v := .int ct1_fa_7) ka_16 fl_J5_79 dJ5_append_cf1ce_35 ?_
  refine lv_iload_n hx hb dJ5_append_cf1ce_38 rfl (lv_at hl 0 rfl) ?_
  refine i_addk hx hb dJ5_append_cf1ce_39 ipu0_3fa_7 (k := 7) rfl (lo := 7) (hi := 57) (by decide) (fun za_18 eza_18 mza_18 iza_18 => ?_)
  refine t_put C h tfa_14 ofa_14 ha_10 (by decide) (by decide) (by decide) wf_52 fw_52 (k := 3) rfl flw_J5_79 (Or.inr ⟨_, _, _, rfl, rfl⟩) (v := .int za_18) rfl rfl ⟨_, rfl, (iv_w iza_18 (by decide))⟩ dJ5_append_cf1ce_40 (fun fa_19 H locs h tfa_19 ofa_19 hq ha_ hn_ hk_ => ?_)
  have ka_21 := hk_ 0 _ (by decide) ka_17
  have ka_22 := atp.tg kRvqfa_14 hq tvfa_7 (by decide)
  have ka_23 := ha_
  refine lv_aload_n hx hb dJ5_append_cf1ce_43 rfl (lv_at hl 1 rfl) ?_
  exact u_aret C h hr (Or.inl ⟨_, rfl⟩) hQ (v := some u0) (⟨τfa_7, xfa_7, ⟨_, rfl, ha_10⟩, tfa_19, (Fr.tr Ofa_7 (Fr.cv xfa_7 ofa_19 (by decide) (fun _ h_ => h_)) (fun _ h_ => h_) (fun _ h_ => h_)), ⟨za_18, ka_23, (show iv za_18 0 50 from by omega), (by omega)⟩, ⟨vqfa_7, nfa_7, rv1_fa_14, za_18, tvfa_7, ka_21, ka_22, ka_23, by omega⟩⟩) (Nat.le_of_ble_eq_true rfl) (Nat.le_of_ble_eq_true rfl) rfl dJ5_append_cf1ce_44
abbrev rm_s_J5_length_8abf5X : Room := { frames := 0, cells := 0, slots := 0, locals := 0 }
set_option maxRecDepth 100000 in
set_option maxHeartbeats 4000000 in
theorem s_J5_length_8abf5X (l : Launch) (D : va_G) (G : Nat → Nat) (b0 : Nat) (τ : Nat → Nat) (f : hM) (t : TI G 9 τ f) (u0 : Nat) (hu0 : τ u0 = 52) (ct : Int32) (hct : iv ct 0 50) (k_u0_3 : atp f u0 (fd 3 (.int ct))) : mI l yJ5_length_8abf5 cJ5_length_8abf5 1 (.int) rm_s_J5_length_8abf5X D G b0 f [.ref u0] (fun r f1 => iv r 0 50 ∧ TI G 9 τ f1 ∧ Fr [] τ f f1 ∧ (r.toInt = ct.toInt)) := by
  refine met2 (own := RJ5) (by decide) rfl (Nat.le_of_ble_eq_true rfl) ?_
  intro p e s m args below meth c ls Q hQ C hr hini hl h
  have hl : lv_has ls 1 [(0, .ref u0)] := hl
  obtain ⟨hx, hb, hml, hown, hts, hE0, hlk⟩ := id C
  have o := Fr.rf [] τ f
  refine lv_aload_n hx hb dJ5_length_8abf5_0 rfl (lv_at hl 0 rfl) ?_
  refine t_getfd C h t hu0 (by decide) wf_52 (v := .int ct) k_u0_3 fl_J5_79 dJ5_length_8abf5_1 ?_
  exact u_iret C h hr hQ (⟨hct, t, o, rfl⟩) (Nat.le_of_ble_eq_true rfl) (Nat.le_of_ble_eq_true rfl) dJ5_length_8abf5_4
abbrev rm_s_J5_charAt_5068eX : Room := { frames := 2, cells := 0, slots := 0, locals := 43 }
set_option maxRecDepth 100000 in
set_option maxHeartbeats 4000000 in
theorem s_J5_charAt_5068eX (l : Launch) (D : va_G) (G : Nat → Nat) (b0 : Nat) (τ : Nat → Nat) (f : hM) (t : TI G 9 τ f) (u0 : Nat) (hu0 : τ u0 = 52) (u1 : Int32) (hu1 : iv u1 0 49) (ct : Int32) (hct : iv ct 0 50) (k_u0_3 : atp f u0 (fd 3 (.int ct))) (hCP : CPs G τ f u0) (hr0 : u1.toInt < ct.toInt) : mI l yJ5_charAt_5068e cJ5_charAt_5068e 5 (.char) rm_s_J5_charAt_5068eX D G b0 f [.ref u0, .int u1] (fun r f1 => iv r 0 255 ∧ TI G 9 τ f1 ∧ Fr [] τ f f1 ∧ CPs G τ f1 u0) := by
  refine met2 (own := RJ5) (by decide) rfl (Nat.le_of_ble_eq_true rfl) ?_
  intro p e s m args below meth c ls Q hQ C hr hini hl h
  have hl : lv_has ls 5 [(0, .ref u0), (1, .int u1)] := hl
  obtain ⟨hx, hb, hml, hown, hts, hE0, hlk⟩ := id C
  have o := Fr.rf [] τ f
  have hCPc := hCP
  obtain ⟨vq, nrv, rv, ctz, hvq, k_u0_0, hRvq, kctz, hcn⟩ := hCP
  obtain rfl := fd_int k_u0_3 kctz
  have hbv := (bv_at t hvq hRvq).1
  refine lv_aload_n hx hb dJ5_charAt_5068e_0 rfl (lv_at hl 0 rfl) ?_
  refine t_geti C h t hu0 (by decide) wf_52 rfl fl_J5_22 dJ5_charAt_5068e_1 (fun z1 iz1 => ?_)
  obtain rfl : (0 : Int32) = z1 := Int32.toInt_inj.mp (by have n_ : (0 : Int32).toInt = 0 := rfl; omega)
  refine lv_istore_n (lv' := [(2, .int 0), (0, .ref u0), (1, .int u1)]) hx hb dJ5_charAt_5068e_4 rfl hl (by decide) rfl (fun ls hl => ?_)
  refine lv_aload_n hx hb dJ5_charAt_5068e_5 rfl (lv_at hl 1 rfl) ?_
  refine t_getfd C h t hu0 (by decide) wf_52 (v := .ref vq) k_u0_0 fl_J5_15 dJ5_charAt_5068e_6 ?_
  refine lv_astore_n (lv' := [(3, .ref vq), (2, .int 0), (0, .ref u0), (1, .int u1)]) hx hb dJ5_charAt_5068e_9 rfl hl (by decide) rfl (fun ls hl => ?_)
  refine lv_aload_n hx hb dJ5_charAt_5068e_10 rfl (lv_at hl 2 rfl) ?_
  refine t_getfd C h t hu0 (by decide) wf_52 (v := .int ct) k_u0_3 fl_J5_79 dJ5_charAt_5068e_11 ?_
  refine lv_aload_n hx hb dJ5_charAt_5068e_14 rfl (lv_at hl 0 rfl) ?_
  refine e_bvlen C h t hvq hRvq dJ5_charAt_5068e_15 (fun z2 mz2 iz2 => ?_)
  refine lv_iload_n hx hb dJ5_charAt_5068e_16 rfl (lv_at hl 1 rfl) ?_
  refine lv_ishr hx hb dJ5_charAt_5068e_17 (i_topm (P := fun q_ => q_ = Int32.toInt z2) (show _ ∧ _ by rw [sb_shr0]; exact ⟨rfl, iz2⟩) (fun z3 ez3 mz3 iz3 => ?_))
  refine va_mmin hx hb (hml.trans hl.1.symm) hown (hts _ w_1282) (hts _ w_548) (hts _ w_112) (hts _ w_549) (Nat.le_of_ble_eq_true rfl) (Nat.le_of_ble_eq_true rfl) (Nat.le_of_ble_eq_true rfl) (Nat.le_of_ble_eq_true rfl) dJ5_charAt_5068e_18 (i_min hct iz3 (lo := 0) (hi := 50) (by decide) (fun z4 mz4 iz4 => ?_))
  refine lv_istore (lv' := [(4, .int z4), (3, .ref vq), (2, .int 0), (0, .ref u0), (1, .int u1)]) hx hb dJ5_charAt_5068e_21 hl (by decide) rfl (fun ls hl => ?_)
  refine lv_iload_n hx hb dJ5_charAt_5068e_23 rfl (lv_at hl 4 rfl) ?_
  refine lv_iload hx hb dJ5_charAt_5068e_24 (lv_at hl 0 rfl) ?_
  refine k_v (r_S C h hl (As := [.int u1, .int z4]) (rest := []) (c_chk l D G b0 f u1 z4 (by omega)) mk_J0_checkIndex_df160 w_1283 w_485 w_486 ⟨(Nat.le_of_ble_eq_true rfl), (Nat.le_of_ble_eq_true rfl)⟩ rfl (Nat.le_of_ble_eq_true rfl) ⟨(Nat.le_of_ble_eq_true rfl), (Nat.le_of_ble_eq_true rfl)⟩ rfl dJ5_charAt_5068e_26) h (fun f5 H locs pf5 h => ?_)
  subst pf5
  refine lv_iload_n hx hb dJ5_charAt_5068e_29 rfl (lv_at hl 2 rfl) ?_
  refine lv_if_ne (tgt := 42) hx hb dJ5_charAt_5068e_30 (by decide) (fun c6 => ?_) (fun c6 => ?_)
  · exact absurd c6 (by decide)
  · refine lv_aload_n hx hb dJ5_charAt_5068e_33 rfl (lv_at hl 1 rfl) ?_
    refine lv_iload_n hx hb dJ5_charAt_5068e_34 rfl (lv_at hl 4 rfl) ?_
    refine e_bvald C h t hvq hRvq (ix_o (by omega)) dJ5_charAt_5068e_35 (fun z9 ez9 iz9 => ?_)
    have mz9 := congrArg Int32.toInt ez9
    refine lv_sipush (v := 255) hx hb dJ5_charAt_5068e_36 (by decide) ?_
    refine lv_iand hx hb dJ5_charAt_5068e_39 (i_top (iv_and (k := 255) rfl (by decide)) (fun z10 ez10 iz10 => ?_))
    refine lv_i2c hx hb dJ5_charAt_5068e_40 (i2c_id iz10 (by decide)) ?_
    exact u_cret C h hr hQ (nar_c iz10 (by decide)) (⟨iz10, t, o, hCPc⟩) (Nat.le_of_ble_eq_true rfl) (Nat.le_of_ble_eq_true rfl) dJ5_charAt_5068e_41
abbrev rm_s_J5_ensureCapacityInternal_d00dfZ : Room := { frames := 0, cells := 0, slots := 0, locals := 0 }
set_option maxRecDepth 100000 in
set_option maxHeartbeats 4000000 in
theorem s_J5_ensureCapacityInternal_d00dfZ (l : Launch) (D : va_G) (G : Nat → Nat) (b0 : Nat) (τ : Nat → Nat) (f : hM) (t : TI G 9 τ f) (u0 : Nat) (hu0 : τ u0 = 52) (u1 : Int32) (hu1 : iv u1 0 0) : mV l yJ5_ensureCapacityInternal_d00df cJ5_ensureCapacityInternal_d00df 3 rm_s_J5_ensureCapacityInternal_d00dfZ D G b0 f [.ref u0, .int u1] (fun f1 => TI G 9 τ f1 ∧ Fr [] τ f f1) := by
  refine met2 (own := RJ5) (by decide) rfl (Nat.le_of_ble_eq_true rfl) ?_
  intro p e s m args below meth c ls Q hQ C hr hini hl h
  have hl : lv_has ls 3 [(0, .ref u0), (1, .int u1)] := hl
  obtain ⟨hx, hb, hml, hown, hts, hE0, hlk⟩ := id C
  have o := Fr.rf [] τ f
  obtain ⟨vq, hvq, k_u0_0⟩ := t_fref (tq := 53) (k := 0) t hu0 (by decide) wf_52 rfl
  obtain ⟨nrv, rv, hRvq⟩ := bv_get t hvq
  have hbv := (bv_at t hvq hRvq).1
  refine lv_aload_n hx hb dJ5_ensureCapacityInternal_d00df_0 rfl (lv_at hl 0 rfl) ?_
  refine t_getfd C h t hu0 (by decide) wf_52 (v := .ref vq) k_u0_0 fl_J5_15 dJ5_ensureCapacityInternal_d00df_1 ?_
  refine e_bvlen C h t hvq hRvq dJ5_ensureCapacityInternal_d00df_4 (fun z1 mz1 iz1 => ?_)
  refine lv_aload_n hx hb dJ5_ensureCapacityInternal_d00df_5 rfl (lv_at hl 0 rfl) ?_
  refine t_geti C h t hu0 (by decide) wf_52 rfl fl_J5_22 dJ5_ensureCapacityInternal_d00df_6 (fun z2 iz2 => ?_)
  obtain rfl : (0 : Int32) = z2 := Int32.toInt_inj.mp (by have n_ : (0 : Int32).toInt = 0 := rfl; omega)
  refine lv_ishr hx hb dJ5_ensureCapacityInternal_d00df_9 (i_topm (P := fun q_ => q_ = Int32.toInt z1) (show _ ∧ _ by rw [sb_shr0]; exact ⟨rfl, iz1⟩) (fun z3 ez3 mz3 iz3 => ?_))
  refine lv_istore_n (lv' := [(2, .int z3), (0, .ref u0), (1, .int u1)]) hx hb dJ5_ensureCapacityInternal_d00df_10 rfl hl (by decide) rfl (fun ls hl => ?_)
  refine lv_iload_n hx hb dJ5_ensureCapacityInternal_d00df_11 rfl (lv_at hl 2 rfl) ?_
  refine lv_iload_n hx hb dJ5_ensureCapacityInternal_d00df_12 rfl (lv_at hl 0 rfl) ?_
  refine i_sub hx hb dJ5_ensureCapacityInternal_d00df_13 hu1 iz3 (lo := (-100)) (hi := (-16)) (by decide) (fun z4 ez4 mz4 iz4 => ?_)
  refine lv_if_le (tgt := 38) hx hb dJ5_ensureCapacityInternal_d00df_14 (by decide) (fun c5 => ?_) (fun c5 => ?_)
  · have c6 : z4.toInt ≤ 0 := Int32.le_iff_toInt_le.mp c5
    exact u_vret C h hr hQ (⟨t, o⟩) (Nat.le_of_ble_eq_true rfl) (Nat.le_of_ble_eq_true rfl) dJ5_ensureCapacityInternal_d00df_38
  · have c7 : 0 < z4.toInt := Int32.lt_iff_toInt_lt.mp (iv_nle c5)
    exact (iv_cl_ c7 (iv_k (x := 0) (k := 0) rfl) iz4 (by decide)).elim
abbrev rm_s_J5_setLength_d00dfX : Room := { frames := 1, cells := 0, slots := 0, locals := 22 }
set_option maxRecDepth 100000 in
set_option maxHeartbeats 4000000 in
theorem s_J5_setLength_d00dfX (l : Launch) (D : va_G) (G : Nat → Nat) (b0 : Nat) (τ : Nat → Nat) (f : hM) (t : TI G 9 τ f) (u0 : Nat) (hu0 : τ u0 = 52) (u1 : Int32) (hu1 : iv u1 0 0) (ct : Int32) (hct : iv ct 0 100) (k_u0_3 : atp f u0 (fd 3 (.int ct))) : mV l yJ5_setLength_d00df cJ5_setLength_d00df 2 rm_s_J5_setLength_d00dfX D G b0 f [.ref u0, .int u1] (fun f1 => TI G 9 τ f1 ∧ Fr [52, 52003, 52004] τ f f1 ∧ (CPs G τ f1 u0) ∧ (∃ ct1 : Int32, atp f1 u0 (fd 3 (.int ct1)) ∧ iv ct1 0 0 ∧ ct1.toInt = 0)) := by
  refine met2 (own := RJ5) (by decide) rfl (Nat.le_of_ble_eq_true rfl) ?_
  intro p e s m args below meth c ls Q hQ C hr hini hl h
  have hl : lv_has ls 2 [(0, .ref u0), (1, .int u1)] := hl
  obtain ⟨hx, hb, hml, hown, hts, hE0, hlk⟩ := id C
  have o := Fr.rf [52, 52003, 52004] τ f
  obtain ⟨vq, hvq, k_u0_0⟩ := t_fref (tq := 53) (k := 0) t hu0 (by decide) wf_52 rfl
  obtain ⟨nrv, rv, hRvq⟩ := bv_get t hvq
  refine lv_iload_n hx hb dJ5_setLength_d00df_0 rfl (lv_at hl 1 rfl) ?_
  refine lv_if_ge (tgt := 13) hx hb dJ5_setLength_d00df_1 (by decide) (fun c1 => ?_) (fun c1 => ?_)
  · have c2 : 0 ≤ u1.toInt := Int32.le_iff_toInt_le.mp c1
    refine lv_aload_n hx hb dJ5_setLength_d00df_13 rfl (lv_at hl 0 rfl) ?_
    refine lv_iload_n hx hb dJ5_setLength_d00df_14 rfl (lv_at hl 1 rfl) ?_
    obtain ⟨_, r4⟩ := t_rec t hu0 (by decide) wf_52
    refine k_v (r_VP C h hl (As := [.int u1]) (rest := []) (s_J5_ensureCapacityInternal_d00dfZ l D G b0 τ f t u0 hu0 u1 hu1) r4 (Cn := RJ4) (T := TJ4) (N := 4) rfl mk_J5_ensureCapacityInternal_d00df w_1107 w_1109 (va_Nw.use (A := args) rfl (hE0.2.2.2.2.2.2.2.2.2.2.2.2.2.2.2.2.2 yJ5_ensureCapacityInternal_d00df (by simp [sel_l, yJ5_ensureCapacityInternal_d00df, RJ5]))) w_1110 ⟨Nat.le_of_ble_eq_true rfl, Nat.le_of_ble_eq_true rfl⟩ rfl (Nat.le_of_ble_eq_true rfl) ⟨Nat.le_of_ble_eq_true rfl, Nat.le_of_ble_eq_true rfl⟩ rfl dJ5_setLength_d00df_15) h (fun f6 H locs p7 h => ?_)
    obtain ⟨tf6, ogf6⟩ := p7
    have egf6 := Fr.nil2 ogf6
    subst egf6
    refine lv_aload_n hx hb dJ5_setLength_d00df_18 rfl (lv_at hl 0 rfl) ?_
    refine t_getfd C h t hu0 (by decide) wf_52 (v := .int ct) k_u0_3 fl_J5_79 dJ5_setLength_d00df_19 ?_
    refine lv_iload_n hx hb dJ5_setLength_d00df_22 rfl (lv_at hl 1 rfl) ?_
    refine lv_icmp_ge (tgt := 63) hx hb dJ5_setLength_d00df_23 (by decide) (fun c8 => ?_) (fun c8 => ?_)
    · have c9 : u1.toInt ≤ ct.toInt := Int32.le_iff_toInt_le.mp c8
      refine lv_aload_n hx hb dJ5_setLength_d00df_63 rfl (lv_at hl 0 rfl) ?_
      refine t_getfd C h t hu0 (by decide) wf_52 (v := .int ct) k_u0_3 fl_J5_79 dJ5_setLength_d00df_64 ?_
      refine lv_iload_n hx hb dJ5_setLength_d00df_67 rfl (lv_at hl 1 rfl) ?_
      refine lv_icmp_le (tgt := 76) hx hb dJ5_setLength_d00df_68 (by decide) (fun c11 => ?_) (fun c11 => ?_)
      · have c12 : ct.toInt ≤ u1.toInt := Int32.le_iff_toInt_le.mp c11
        have i13 : iv ct 0 0 := iv_El c12 hct hu1 (by decide)
        refine lv_aload_n hx hb dJ5_setLength_d00df_76 rfl (lv_at hl 0 rfl) ?_
        refine lv_iload_n hx hb dJ5_setLength_d00df_77 rfl (lv_at hl 1 rfl) ?_
        refine t_put C h t o hu0 (by decide) (by decide) (by decide) wf_52 fw_52 (k := 3) rfl flw_J5_79 (Or.inr ⟨_, _, _, rfl, rfl⟩) (v := .int u1) rfl rfl ⟨_, rfl, (iv_w hu1 (by decide))⟩ dJ5_setLength_d00df_78 (fun f16 H locs h tf16 of16 hq ha_ hn_ hk_ => ?_)
        have k18 := hk_ 0 _ (by decide) k_u0_0
        have k19 := atp.tg hRvq hq hvq (by decide)
        have k20 := ha_
        exact u_vret C h hr hQ (⟨tf16, of16, ⟨vq, nrv, rv, u1, hvq, k18, k19, k20, by omega⟩, ⟨u1, k20, hu1, (by omega)⟩⟩) (Nat.le_of_ble_eq_true rfl) (Nat.le_of_ble_eq_true rfl) dJ5_setLength_d00df_81
      · have c14 : u1.toInt < ct.toInt := Int32.lt_iff_toInt_lt.mp (iv_nle c11)
        have i15 : iv ct 1 100 := iv_Lr c14 hu1 hct (by decide)
        refine lv_aload_n hx hb dJ5_setLength_d00df_71 rfl (lv_at hl 0 rfl) ?_
        refine lv_iconst (v := 1) hx hb dJ5_setLength_d00df_72 (by decide) ?_
        refine t_put C h t o hu0 (by decide) (by decide) (by decide) wf_52 fw_52 (k := 2) rfl flw_J5_73 (Or.inr ⟨_, _, _, rfl, rfl⟩) (v := .int 1) rfl rfl ⟨_, rfl, ⟨by decide, by decide⟩⟩ dJ5_setLength_d00df_73 (fun f21 H locs h tf21 of21 hq ha_ hn_ hk_ => ?_)
        have k22 := hk_ 3 _ (by decide) k_u0_3
        have k23 := hk_ 0 _ (by decide) k_u0_0
        have k24 := atp.tg hRvq hq hvq (by decide)
        have k25 := ha_
        refine lv_aload_n hx hb dJ5_setLength_d00df_76 rfl (lv_at hl 0 rfl) ?_
        refine lv_iload_n hx hb dJ5_setLength_d00df_77 rfl (lv_at hl 1 rfl) ?_
        refine t_put C h tf21 of21 hu0 (by decide) (by decide) (by decide) wf_52 fw_52 (k := 3) rfl flw_J5_79 (Or.inr ⟨_, _, _, rfl, rfl⟩) (v := .int u1) rfl rfl ⟨_, rfl, (iv_w hu1 (by decide))⟩ dJ5_setLength_d00df_78 (fun f26 H locs h tf26 of26 hq ha_ hn_ hk_ => ?_)
        have k28 := hk_ 0 _ (by decide) k23
        have k29 := atp.tg k24 hq hvq (by decide)
        have k30 := ha_
        exact u_vret C h hr hQ (⟨tf26, of26, ⟨vq, nrv, rv, u1, hvq, k28, k29, k30, by omega⟩, ⟨u1, k30, hu1, (by omega)⟩⟩) (Nat.le_of_ble_eq_true rfl) (Nat.le_of_ble_eq_true rfl) dJ5_setLength_d00df_81
    · have c10 : ct.toInt < u1.toInt := Int32.lt_iff_toInt_lt.mp (iv_nle c8)
      exact (iv_cl_ c10 hct hu1 (by decide)).elim
  · have c3 : u1.toInt < 0 := Int32.lt_iff_toInt_lt.mp (iv_nle c1)
    exact (iv_cl_ c3 hu1 (iv_k (x := 0) (k := 0) rfl) (by decide)).elim
