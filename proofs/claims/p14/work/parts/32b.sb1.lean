theorem dJ5_isLatin1_aae02_0 : decode cJ5_isLatin1_aae02 0 = .ok (.getstatic 18, 3) := by decide +kernel
theorem w_356 : Cond.fieldLink "java/lang/AbstractStringBuilder" 18 "java/lang/String" "COMPACT_STRINGS" "Z" ∈ wAll := wI2 21 (by decide +kernel) (by decide +kernel)
theorem dJ5_isLatin1_aae02_3 : decode cJ5_isLatin1_aae02 3 = .ok (.ifCond .eq 14, 3) := by decide +kernel
theorem dJ5_isLatin1_aae02_6 : decode cJ5_isLatin1_aae02 6 = .ok (.aload_n 0, 1) := by decide +kernel
theorem dJ5_isLatin1_aae02_7 : decode cJ5_isLatin1_aae02 7 = .ok (.getfield 22, 3) := by decide +kernel
theorem w_369 : Cond.lays "java/lang/StringBuilder" "java/lang/AbstractStringBuilder" "value" "[B" ∈ wAll := wI2 34 (by decide +kernel) (by decide +kernel)
theorem w_371 : Cond.lays "java/lang/StringBuilder" "java/lang/AbstractStringBuilder" "coder" "B" ∈ wAll := wI2 36 (by decide +kernel) (by decide +kernel)
theorem w_373 : Cond.lays "java/lang/StringBuilder" "java/lang/AbstractStringBuilder" "maybeLatin1" "Z" ∈ wAll := wI2 38 (by decide +kernel) (by decide +kernel)
theorem w_375 : Cond.lays "java/lang/StringBuilder" "java/lang/AbstractStringBuilder" "count" "I" ∈ wAll := wI2 40 (by decide +kernel) (by decide +kernel)
theorem inA_J4 : ∀ w ∈ u_ws RJ4 TJ4 4, w ∈ wAll := List.forall_mem_cons.mpr ⟨w_369, List.forall_mem_cons.mpr ⟨w_371, List.forall_mem_cons.mpr ⟨w_373, List.forall_mem_cons.mpr ⟨w_375, fun _ h => absurd h List.not_mem_nil⟩⟩⟩⟩
theorem w_366 : Cond.fieldLink "java/lang/AbstractStringBuilder" 22 "java/lang/AbstractStringBuilder" "coder" "B" ∈ wAll := wI2 31 (by decide +kernel) (by decide +kernel)
theorem fl_J5_22 : fl RJ5 22 0 1 := ⟨RJ4, TJ4, 4, rfl, inA_J4, by decide, w_366⟩
theorem dJ5_isLatin1_aae02_10 : decode cJ5_isLatin1_aae02 10 = .ok (.ifCond .ne 7, 3) := by decide +kernel
theorem dJ5_isLatin1_aae02_13 : decode cJ5_isLatin1_aae02 13 = .ok (.iconst 1, 1) := by decide +kernel
theorem dJ5_isLatin1_aae02_14 : decode cJ5_isLatin1_aae02 14 = .ok (.goto 4, 3) := by decide +kernel
theorem dJ5_isLatin1_aae02_18 : decode cJ5_isLatin1_aae02 18 = .ok (.ireturn, 1) := by decide +kernel
theorem dJ1_canEncode_fc78d_0 : decode cJ1_canEncode_fc78d 0 = .ok (.iload_n 0, 1) := by decide +kernel
theorem dJ1_canEncode_fc78d_1 : decode cJ1_canEncode_fc78d 1 = .ok (.sipush 255, 3) := by decide +kernel
theorem dJ1_canEncode_fc78d_4 : decode cJ1_canEncode_fc78d 4 = .ok (.if_icmp .gt 7, 3) := by decide +kernel
theorem dJ1_canEncode_fc78d_7 : decode cJ1_canEncode_fc78d 7 = .ok (.iconst 1, 1) := by decide +kernel
theorem dJ1_canEncode_fc78d_8 : decode cJ1_canEncode_fc78d 8 = .ok (.goto 4, 3) := by decide +kernel
theorem dJ1_canEncode_fc78d_12 : decode cJ1_canEncode_fc78d 12 = .ok (.ireturn, 1) := by decide +kernel
theorem dJ8_newLength_cabcc_0 : decode cJ8_newLength_cabcc 0 = .ok (.iload_n 0, 1) := by decide +kernel
theorem dJ8_newLength_cabcc_1 : decode cJ8_newLength_cabcc 1 = .ok (.iload_n 1, 1) := by decide +kernel
theorem dJ8_newLength_cabcc_2 : decode cJ8_newLength_cabcc 2 = .ok (.iload_n 2, 1) := by decide +kernel
theorem dJ8_newLength_cabcc_3 : decode cJ8_newLength_cabcc 3 = .ok (.invokestatic 194, 3) := by decide +kernel
theorem w_1118 : Cond.methodLink "jdk/internal/util/ArraysSupport" 194 yJ9_max_7cf53 ∈ wAll := wI5 63 (by decide +kernel) (by decide +kernel)
theorem dJ8_newLength_cabcc_6 : decode cJ8_newLength_cabcc 6 = .ok (.iadd, 1) := by decide +kernel
theorem dJ8_newLength_cabcc_7 : decode cJ8_newLength_cabcc 7 = .ok (.istore_n 3, 1) := by decide +kernel
theorem dJ8_newLength_cabcc_8 : decode cJ8_newLength_cabcc 8 = .ok (.iconst 0, 1) := by decide +kernel
theorem dJ8_newLength_cabcc_9 : decode cJ8_newLength_cabcc 9 = .ok (.iload_n 3, 1) := by decide +kernel
theorem dJ8_newLength_cabcc_10 : decode cJ8_newLength_cabcc 10 = .ok (.if_icmp .ge 11, 3) := by decide +kernel
theorem dJ8_newLength_cabcc_13 : decode cJ8_newLength_cabcc 13 = .ok (.iload_n 3, 1) := by decide +kernel
theorem dJ8_newLength_cabcc_14 : decode cJ8_newLength_cabcc 14 = .ok (.ldc 200, 2) := by decide +kernel
theorem w_1119 : Cond.constant "jdk/internal/util/ArraysSupport" 200 2147483639 ∈ wAll := wI5 64 (by decide +kernel) (by decide +kernel)
theorem dJ8_newLength_cabcc_16 : decode cJ8_newLength_cabcc 16 = .ok (.if_icmp .gt 5, 3) := by decide +kernel
theorem dJ8_newLength_cabcc_19 : decode cJ8_newLength_cabcc 19 = .ok (.iload_n 3, 1) := by decide +kernel
theorem dJ8_newLength_cabcc_20 : decode cJ8_newLength_cabcc 20 = .ok (.ireturn, 1) := by decide +kernel
theorem dJ5_newCapacity_0f7a4_0 : decode cJ5_newCapacity_0f7a4 0 = .ok (.aload_n 0, 1) := by decide +kernel
theorem dJ5_newCapacity_0f7a4_1 : decode cJ5_newCapacity_0f7a4 1 = .ok (.getfield 15, 3) := by decide +kernel
theorem w_365 : Cond.fieldLink "java/lang/AbstractStringBuilder" 15 "java/lang/AbstractStringBuilder" "value" "[B" ∈ wAll := wI2 30 (by decide +kernel) (by decide +kernel)
theorem fl_J5_15 : fl RJ5 15 0 0 := ⟨RJ4, TJ4, 4, rfl, inA_J4, by decide, w_365⟩
theorem dJ5_newCapacity_0f7a4_4 : decode cJ5_newCapacity_0f7a4 4 = .ok (.arraylength, 1) := by decide +kernel
theorem dJ5_newCapacity_0f7a4_5 : decode cJ5_newCapacity_0f7a4 5 = .ok (.istore_n 2, 1) := by decide +kernel
theorem dJ5_newCapacity_0f7a4_6 : decode cJ5_newCapacity_0f7a4 6 = .ok (.iload_n 1, 1) := by decide +kernel
theorem dJ5_newCapacity_0f7a4_7 : decode cJ5_newCapacity_0f7a4 7 = .ok (.aload_n 0, 1) := by decide +kernel
theorem dJ5_newCapacity_0f7a4_8 : decode cJ5_newCapacity_0f7a4 8 = .ok (.getfield 22, 3) := by decide +kernel
theorem dJ5_newCapacity_0f7a4_11 : decode cJ5_newCapacity_0f7a4 11 = .ok (.ishl, 1) := by decide +kernel
theorem dJ5_newCapacity_0f7a4_12 : decode cJ5_newCapacity_0f7a4 12 = .ok (.istore_n 3, 1) := by decide +kernel
theorem dJ5_newCapacity_0f7a4_13 : decode cJ5_newCapacity_0f7a4 13 = .ok (.iload_n 3, 1) := by decide +kernel
theorem dJ5_newCapacity_0f7a4_14 : decode cJ5_newCapacity_0f7a4 14 = .ok (.iload_n 2, 1) := by decide +kernel
theorem dJ5_newCapacity_0f7a4_15 : decode cJ5_newCapacity_0f7a4 15 = .ok (.isub, 1) := by decide +kernel
theorem dJ5_newCapacity_0f7a4_16 : decode cJ5_newCapacity_0f7a4 16 = .ok (.istore 4, 2) := by decide +kernel
theorem dJ5_newCapacity_0f7a4_18 : decode cJ5_newCapacity_0f7a4 18 = .ok (.iload_n 2, 1) := by decide +kernel
theorem dJ5_newCapacity_0f7a4_19 : decode cJ5_newCapacity_0f7a4 19 = .ok (.iload 4, 2) := by decide +kernel
theorem dJ5_newCapacity_0f7a4_21 : decode cJ5_newCapacity_0f7a4 21 = .ok (.iload_n 2, 1) := by decide +kernel
theorem dJ5_newCapacity_0f7a4_22 : decode cJ5_newCapacity_0f7a4 22 = .ok (.iconst 2, 1) := by decide +kernel
theorem dJ5_newCapacity_0f7a4_23 : decode cJ5_newCapacity_0f7a4 23 = .ok (.aload_n 0, 1) := by decide +kernel
theorem dJ5_newCapacity_0f7a4_24 : decode cJ5_newCapacity_0f7a4 24 = .ok (.getfield 22, 3) := by decide +kernel
theorem dJ5_newCapacity_0f7a4_27 : decode cJ5_newCapacity_0f7a4 27 = .ok (.ishl, 1) := by decide +kernel
theorem dJ5_newCapacity_0f7a4_28 : decode cJ5_newCapacity_0f7a4 28 = .ok (.iadd, 1) := by decide +kernel
theorem dJ5_newCapacity_0f7a4_29 : decode cJ5_newCapacity_0f7a4 29 = .ok (.invokestatic 114, 3) := by decide +kernel
theorem w_1115 : Cond.methodLink "java/lang/AbstractStringBuilder" 114 yJ8_newLength_cabcc ∈ wAll := wI5 60 (by decide +kernel) (by decide +kernel)
theorem w_123 : Cond.initialized "jdk/internal/util/ArraysSupport" ∈ wAll := wI1 28 (by decide +kernel) (by decide +kernel)
theorem mk_J8_newLength_cabcc : mk yJ8_newLength_cabcc 3 := ⟨by decide +kernel, w_123⟩
theorem w_1116 : Cond.static yJ8_newLength_cabcc ∈ wAll := wI5 61 (by decide +kernel) (by decide +kernel)
theorem w_1117 : Cond.code yJ8_newLength_cabcc cJ8_newLength_cabcc 4 (some .int) ∈ wAll := wI5 62 (by decide +kernel) (by decide +kernel)
theorem dJ5_newCapacity_0f7a4_32 : decode cJ5_newCapacity_0f7a4 32 = .ok (.istore 5, 2) := by decide +kernel
theorem dJ5_newCapacity_0f7a4_34 : decode cJ5_newCapacity_0f7a4 34 = .ok (.iload 5, 2) := by decide +kernel
theorem dJ5_newCapacity_0f7a4_36 : decode cJ5_newCapacity_0f7a4 36 = .ok (.ldc 39, 2) := by decide +kernel
theorem w_1123 : Cond.constant "java/lang/AbstractStringBuilder" 39 2147483647 ∈ wAll := wI5 68 (by decide +kernel) (by decide +kernel)
theorem dJ5_newCapacity_0f7a4_38 : decode cJ5_newCapacity_0f7a4 38 = .ok (.if_icmp .ne 13, 3) := by decide +kernel
theorem dJ5_newCapacity_0f7a4_51 : decode cJ5_newCapacity_0f7a4 51 = .ok (.iload 5, 2) := by decide +kernel
theorem dJ5_newCapacity_0f7a4_53 : decode cJ5_newCapacity_0f7a4 53 = .ok (.aload_n 0, 1) := by decide +kernel
theorem dJ5_newCapacity_0f7a4_54 : decode cJ5_newCapacity_0f7a4 54 = .ok (.getfield 22, 3) := by decide +kernel
theorem dJ5_newCapacity_0f7a4_57 : decode cJ5_newCapacity_0f7a4 57 = .ok (.ishr, 1) := by decide +kernel
theorem dJ5_newCapacity_0f7a4_58 : decode cJ5_newCapacity_0f7a4 58 = .ok (.ireturn, 1) := by decide +kernel
theorem dJ7_copyOf_9075b_0 : decode cJ7_copyOf_9075b 0 = .ok (.iload_n 1, 1) := by decide +kernel
theorem dJ7_copyOf_9075b_1 : decode cJ7_copyOf_9075b 1 = .ok (.aload_n 0, 1) := by decide +kernel
theorem dJ7_copyOf_9075b_2 : decode cJ7_copyOf_9075b 2 = .ok (.arraylength, 1) := by decide +kernel
theorem dJ7_copyOf_9075b_3 : decode cJ7_copyOf_9075b 3 = .ok (.if_icmp .ne 11, 3) := by decide +kernel
theorem dJ7_copyOf_9075b_14 : decode cJ7_copyOf_9075b 14 = .ok (.iload_n 1, 1) := by decide +kernel
theorem dJ7_copyOf_9075b_15 : decode cJ7_copyOf_9075b 15 = .ok (.newarray .byte, 2) := by decide +kernel
theorem w_378 : Cond.arrayClass FieldType.byte ∈ wAll := wI2 43 (by decide +kernel) (by decide +kernel)
theorem dJ7_copyOf_9075b_17 : decode cJ7_copyOf_9075b 17 = .ok (.astore_n 2, 1) := by decide +kernel
theorem dJ7_copyOf_9075b_18 : decode cJ7_copyOf_9075b 18 = .ok (.aload_n 0, 1) := by decide +kernel
theorem dJ7_copyOf_9075b_19 : decode cJ7_copyOf_9075b 19 = .ok (.iconst 0, 1) := by decide +kernel
theorem dJ7_copyOf_9075b_20 : decode cJ7_copyOf_9075b 20 = .ok (.aload_n 2, 1) := by decide +kernel
theorem dJ7_copyOf_9075b_21 : decode cJ7_copyOf_9075b 21 = .ok (.iconst 0, 1) := by decide +kernel
theorem dJ7_copyOf_9075b_22 : decode cJ7_copyOf_9075b 22 = .ok (.aload_n 0, 1) := by decide +kernel
theorem dJ7_copyOf_9075b_23 : decode cJ7_copyOf_9075b 23 = .ok (.arraylength, 1) := by decide +kernel
theorem dJ7_copyOf_9075b_24 : decode cJ7_copyOf_9075b 24 = .ok (.iload_n 1, 1) := by decide +kernel
theorem dJ7_copyOf_9075b_25 : decode cJ7_copyOf_9075b 25 = .ok (.invokestatic 304, 3) := by decide +kernel
theorem w_547 : Cond.methodLink "java/util/Arrays" 304 yJ9_min_7cf53 ∈ wAll := wI2 212 (by decide +kernel) (by decide +kernel)
theorem dJ7_copyOf_9075b_28 : decode cJ7_copyOf_9075b 28 = .ok (.invokestatic 150, 3) := by decide +kernel
theorem w_550 : Cond.methodLink "java/util/Arrays" 150 ⟨"java/lang/System", "arraycopy", "(Ljava/lang/Object;ILjava/lang/Object;II)V"⟩ ∈ wAll := wI2 215 (by decide +kernel) (by decide +kernel)
theorem w_552 : Cond.native ⟨"java/lang/System", "arraycopy", "(Ljava/lang/Object;ILjava/lang/Object;II)V"⟩ ∈ wAll := wI2 217 (by decide +kernel) (by decide +kernel)
theorem w_551 : Cond.static ⟨"java/lang/System", "arraycopy", "(Ljava/lang/Object;ILjava/lang/Object;II)V"⟩ ∈ wAll := wI2 216 (by decide +kernel) (by decide +kernel)
theorem w_116 : Cond.initialized "java/lang/System" ∈ wAll := wI1 21 (by decide +kernel) (by decide +kernel)
theorem dJ7_copyOf_9075b_31 : decode cJ7_copyOf_9075b 31 = .ok (.aload_n 2, 1) := by decide +kernel
theorem dJ7_copyOf_9075b_32 : decode cJ7_copyOf_9075b 32 = .ok (.areturn, 1) := by decide +kernel
abbrev rm_s_J5_isLatin1_aae02X : Room := { frames := 0, cells := 0, slots := 0, locals := 0 }
set_option maxRecDepth 100000 in
set_option maxHeartbeats 4000000 in
theorem s_J5_isLatin1_aae02X (l : Launch) (D : va_G) (G : Nat → Nat) (b0 : Nat) (τ : Nat → Nat) (f : hM) (t : TI G 9 τ f) (u0 : Nat) (hu0 : τ u0 = 52) : mI l yJ5_isLatin1_aae02 cJ5_isLatin1_aae02 1 (.boolean) rm_s_J5_isLatin1_aae02X D G b0 f [.ref u0] (fun r f1 => iv r 0 1 ∧ TI G 9 τ f1 ∧ Fr [] τ f f1 ∧ (r.toInt = 1)) := by
  refine met2 (own := RJ5) (by decide) rfl (Nat.le_of_ble_eq_true rfl) ?_
  intro p e s m args below meth c ls Q hQ C hr hini hl h
  have hl : lv_has ls 1 [(0, .ref u0)] := hl
  obtain ⟨hx, hb, hml, hown, hts, hE0, hlk⟩ := id C
  have o := Fr.rf [] τ f
  refine va_gets hx hb hE0.2.1 h.2.2.1 hown (hts _ w_356) (fun _ h9 => h9) dJ5_isLatin1_aae02_0 ?_
  refine lv_if_eq (tgt := 17) hx hb dJ5_isLatin1_aae02_3 (by decide) (fun c1 => ?_) (fun c1 => ?_)
  · exact absurd c1 (by decide)
  · refine lv_aload_n hx hb dJ5_isLatin1_aae02_6 rfl (lv_at hl 0 rfl) ?_
    refine t_geti C h t hu0 (by decide) wf_52 rfl fl_J5_22 dJ5_isLatin1_aae02_7 (fun z4 iz4 => ?_)
    obtain rfl : (0 : Int32) = z4 := Int32.toInt_inj.mp (by have n_ : (0 : Int32).toInt = 0 := rfl; omega)
    refine lv_if_ne (tgt := 17) hx hb dJ5_isLatin1_aae02_10 (by decide) (fun c5 => ?_) (fun c5 => ?_)
    · exact absurd c5 (by decide)
    · refine lv_iconst (v := 1) hx hb dJ5_isLatin1_aae02_13 (by decide) ?_
      refine lv_goto (tgt := 18) hx hb dJ5_isLatin1_aae02_14 (by decide) ?_
      exact u_zret C h hr hQ ⟨by decide, by decide⟩ (⟨⟨by decide, by decide⟩, t, o, rfl⟩) (Nat.le_of_ble_eq_true rfl) (Nat.le_of_ble_eq_true rfl) dJ5_isLatin1_aae02_18
abbrev rm_s_J1_canEncode_fc78dX : Room := { frames := 0, cells := 0, slots := 0, locals := 0 }
set_option maxRecDepth 100000 in
set_option maxHeartbeats 4000000 in
theorem s_J1_canEncode_fc78dX (l : Launch) (D : va_G) (G : Nat → Nat) (b0 : Nat) (τ : Nat → Nat) (f : hM) (t : TI G 9 τ f) (u0 : Int32) (hu0 : iv u0 0 255) : mI l yJ1_canEncode_fc78d cJ1_canEncode_fc78d 1 (.boolean) rm_s_J1_canEncode_fc78dX D G b0 f [.int u0] (fun r f1 => iv r 0 1 ∧ TI G 9 τ f1 ∧ Fr [] τ f f1 ∧ (r.toInt = 1)) := by
  refine met2 (own := RJ1) (by decide) rfl (Nat.le_of_ble_eq_true rfl) ?_
  intro p e s m args below meth c ls Q hQ C hr hini hl h
  have hl : lv_has ls 1 [(0, .int u0)] := hl
  obtain ⟨hx, hb, hml, hown, hts, hE0, hlk⟩ := id C
  have o := Fr.rf [] τ f
  refine lv_iload_n hx hb dJ1_canEncode_fc78d_0 rfl (lv_at hl 0 rfl) ?_
  refine lv_sipush (v := 255) hx hb dJ1_canEncode_fc78d_1 (by decide) ?_
  refine lv_icmp_gt (tgt := 11) hx hb dJ1_canEncode_fc78d_4 (by decide) (fun c1 => ?_) (fun c1 => ?_)
  · have c2 : 255 < u0.toInt := Int32.lt_iff_toInt_lt.mp c1
    exact (iv_cl_ c2 (iv_k (x := 255) (k := 255) rfl) hu0 (by decide)).elim
  · have c3 : u0.toInt ≤ 255 := Int32.le_iff_toInt_le.mp (iv_nlt c1)
    refine lv_iconst (v := 1) hx hb dJ1_canEncode_fc78d_7 (by decide) ?_
    refine lv_goto (tgt := 12) hx hb dJ1_canEncode_fc78d_8 (by decide) ?_
    exact u_zret C h hr hQ ⟨by decide, by decide⟩ (⟨⟨by decide, by decide⟩, t, o, rfl⟩) (Nat.le_of_ble_eq_true rfl) (Nat.le_of_ble_eq_true rfl) dJ1_canEncode_fc78d_12
abbrev rm_s_J8_newLength_cabccX : Room := { frames := 1, cells := 0, slots := 0, locals := 18 }
set_option maxRecDepth 100000 in
set_option maxHeartbeats 4000000 in
theorem s_J8_newLength_cabccX (l : Launch) (D : va_G) (G : Nat → Nat) (b0 : Nat) (τ : Nat → Nat) (f : hM) (t : TI G 9 τ f) (u0 : Int32) (hu0 : iv u0 16 49) (u1 : Int32) (hu1 : iv u1 1 34) (u2 : Int32) (hu2 : iv u2 18 51) : mI l yJ8_newLength_cabcc cJ8_newLength_cabcc 4 (.int) rm_s_J8_newLength_cabccX D G b0 f [.int u0, .int u1, .int u2] (fun r f1 => iv r 34 100 ∧ TI G 9 τ f1 ∧ Fr [] τ f f1 ∧ (u0.toInt + u1.toInt ≤ r.toInt) ∧ (r.toInt = u0.toInt + u1.toInt ∨ r.toInt = u0.toInt + u2.toInt)) := by
  refine met2 (own := RJ8) (by decide) rfl (Nat.le_of_ble_eq_true rfl) ?_
  intro p e s m args below meth c ls Q hQ C hr hini hl h
  have hl : lv_has ls 4 [(0, .int u0), (1, .int u1), (2, .int u2)] := hl
  obtain ⟨hx, hb, hml, hown, hts, hE0, hlk⟩ := id C
  have o := Fr.rf [] τ f
  refine lv_iload_n hx hb dJ8_newLength_cabcc_0 rfl (lv_at hl 0 rfl) ?_
  refine lv_iload_n hx hb dJ8_newLength_cabcc_1 rfl (lv_at hl 1 rfl) ?_
  refine lv_iload_n hx hb dJ8_newLength_cabcc_2 rfl (lv_at hl 2 rfl) ?_
  refine va_mmax hx hb (hml.trans hl.1.symm) hown (hts _ w_1118) (hts _ w_453) (hts _ w_112) (hts _ w_454) (Nat.le_of_ble_eq_true rfl) (Nat.le_of_ble_eq_true rfl) (Nat.le_of_ble_eq_true rfl) (Nat.le_of_ble_eq_true rfl) dJ8_newLength_cabcc_3 (i_max hu1 hu2 (lo := 18) (hi := 51) (by decide) (fun z1 mz1 iz1 => ?_))
  refine i_add hx hb dJ8_newLength_cabcc_6 hu0 iz1 (lo := 34) (hi := 100) (by decide) (fun z2 ez2 mz2 iz2 => ?_)
  refine lv_istore_n (lv' := [(3, .int z2), (0, .int u0), (1, .int u1), (2, .int u2)]) hx hb dJ8_newLength_cabcc_7 rfl hl (by decide) rfl (fun ls hl => ?_)
  refine lv_iconst (v := 0) hx hb dJ8_newLength_cabcc_8 (by decide) ?_
  refine lv_iload_n hx hb dJ8_newLength_cabcc_9 rfl (lv_at hl 0 rfl) ?_
  refine lv_icmp_ge (tgt := 21) hx hb dJ8_newLength_cabcc_10 (by decide) (fun c3 => ?_) (fun c3 => ?_)
  · have c4 : z2.toInt ≤ 0 := Int32.le_iff_toInt_le.mp c3
    exact (iv_ce_ c4 iz2 (iv_k (x := 0) (k := 0) rfl) (by decide)).elim
  · have c5 : 0 < z2.toInt := Int32.lt_iff_toInt_lt.mp (iv_nle c3)
    refine lv_iload_n hx hb dJ8_newLength_cabcc_13 rfl (lv_at hl 0 rfl) ?_
    refine lv_ldc (v := 2147483639) hx hb hown (hts _ w_1119) dJ8_newLength_cabcc_14 ?_
    refine lv_icmp_gt (tgt := 21) hx hb dJ8_newLength_cabcc_16 (by decide) (fun c6 => ?_) (fun c6 => ?_)
    · have c7 : 2147483639 < z2.toInt := Int32.lt_iff_toInt_lt.mp c6
      exact (iv_cl_ c7 (iv_k (x := 2147483639) (k := 2147483639) rfl) iz2 (by decide)).elim
    · have c8 : z2.toInt ≤ 2147483639 := Int32.le_iff_toInt_le.mp (iv_nlt c6)
      refine lv_iload_n hx hb dJ8_newLength_cabcc_19 rfl (lv_at hl 0 rfl) ?_
      exact u_iret C h hr hQ (⟨iz2, t, o, (by omega), (by omega)⟩) (Nat.le_of_ble_eq_true rfl) (Nat.le_of_ble_eq_true rfl) dJ8_newLength_cabcc_20
abbrev rm_s_J5_newCapacity_0f7a4X : Room := { frames := 2, cells := 0, slots := 0, locals := 41 }
set_option maxRecDepth 100000 in
set_option maxHeartbeats 4000000 in
theorem s_J5_newCapacity_0f7a4X (l : Launch) (D : va_G) (G : Nat → Nat) (b0 : Nat) (τ : Nat → Nat) (f : hM) (t : TI G 9 τ f) (u0 : Nat) (hu0 : τ u0 = 52) (u1 : Int32) (hu1 : iv u1 17 50) (vq : Nat) (hvq : τ vq = 53) (k_u0_0 : atp f u0 (fd 0 (.ref vq))) (nrv : Nat) (rv : Nat → Int32) (hRvq : atp f vq (bvr G nrv rv)) (hr0 : (nrv : Int) < u1.toInt) : mI l yJ5_newCapacity_0f7a4 cJ5_newCapacity_0f7a4 6 (.int) rm_s_J5_newCapacity_0f7a4X D G b0 f [.ref u0, .int u1] (fun r f1 => iv r 16 100 ∧ TI G 9 τ f1 ∧ Fr [] τ f f1 ∧ (u1.toInt ≤ r.toInt)) := by
  refine met2 (own := RJ5) (by decide) rfl (Nat.le_of_ble_eq_true rfl) ?_
  intro p e s m args below meth c ls Q hQ C hr hini hl h
  have hl : lv_has ls 6 [(0, .ref u0), (1, .int u1)] := hl
  obtain ⟨hx, hb, hml, hown, hts, hE0, hlk⟩ := id C
  have o := Fr.rf [] τ f
  have hbv := (bv_at t hvq hRvq).1
  refine lv_aload_n hx hb dJ5_newCapacity_0f7a4_0 rfl (lv_at hl 0 rfl) ?_
  refine t_getfd C h t hu0 (by decide) wf_52 (v := .ref vq) k_u0_0 fl_J5_15 dJ5_newCapacity_0f7a4_1 ?_
  refine e_bvlen C h t hvq hRvq dJ5_newCapacity_0f7a4_4 (fun z1 mz1 iz1 => ?_)
  refine lv_istore_n (lv' := [(2, .int z1), (0, .ref u0), (1, .int u1)]) hx hb dJ5_newCapacity_0f7a4_5 rfl hl (by decide) rfl (fun ls hl => ?_)
  refine lv_iload_n hx hb dJ5_newCapacity_0f7a4_6 rfl (lv_at hl 2 rfl) ?_
  refine lv_aload_n hx hb dJ5_newCapacity_0f7a4_7 rfl (lv_at hl 1 rfl) ?_
  refine t_geti C h t hu0 (by decide) wf_52 rfl fl_J5_22 dJ5_newCapacity_0f7a4_8 (fun z2 iz2 => ?_)
  obtain rfl : (0 : Int32) = z2 := Int32.toInt_inj.mp (by have n_ : (0 : Int32).toInt = 0 := rfl; omega)
  refine lv_ishl hx hb dJ5_newCapacity_0f7a4_11 (i_topm (P := fun q_ => q_ = Int32.toInt u1) (show _ ∧ _ by rw [sb_shl0]; exact ⟨rfl, hu1⟩) (fun z3 ez3 mz3 iz3 => ?_))
  refine lv_istore_n (lv' := [(3, .int z3), (2, .int z1), (0, .ref u0), (1, .int u1)]) hx hb dJ5_newCapacity_0f7a4_12 rfl hl (by decide) rfl (fun ls hl => ?_)
  refine lv_iload_n hx hb dJ5_newCapacity_0f7a4_13 rfl (lv_at hl 0 rfl) ?_
  refine lv_iload_n hx hb dJ5_newCapacity_0f7a4_14 rfl (lv_at hl 1 rfl) ?_
  refine i_sub hx hb dJ5_newCapacity_0f7a4_15 iz3 iz1 (lo := (-83)) (hi := 34) (by decide) (fun z4 ez4 mz4 iz4 => ?_)
  refine lv_istore (lv' := [(4, .int z4), (3, .int z3), (2, .int z1), (0, .ref u0), (1, .int u1)]) hx hb dJ5_newCapacity_0f7a4_16 hl (by decide) rfl (fun ls hl => ?_)
  refine lv_iload_n hx hb dJ5_newCapacity_0f7a4_18 rfl (lv_at hl 2 rfl) ?_
  refine lv_iload hx hb dJ5_newCapacity_0f7a4_19 (lv_at hl 0 rfl) ?_
  refine lv_iload_n hx hb dJ5_newCapacity_0f7a4_21 rfl (lv_at hl 2 rfl) ?_
  refine lv_iconst (v := 2) hx hb dJ5_newCapacity_0f7a4_22 (by decide) ?_
  refine lv_aload_n hx hb dJ5_newCapacity_0f7a4_23 rfl (lv_at hl 3 rfl) ?_
  refine t_geti C h t hu0 (by decide) wf_52 rfl fl_J5_22 dJ5_newCapacity_0f7a4_24 (fun z5 iz5 => ?_)
  obtain rfl : (0 : Int32) = z5 := Int32.toInt_inj.mp (by have n_ : (0 : Int32).toInt = 0 := rfl; omega)
  refine lv_ishl hx hb dJ5_newCapacity_0f7a4_27 (lv_topi (fun x_ e_ => ?_))
  obtain rfl : 2 = x_ := by rw [e_]; decide
  refine i_addk hx hb dJ5_newCapacity_0f7a4_28 iz1 (k := 2) rfl (lo := 18) (hi := 102) (by decide) (fun z6 ez6 mz6 iz6 => ?_)
  have i7 : iv z1 16 49 := ⟨by omega, by omega⟩
  have i8 : iv z4 1 34 := ⟨by omega, by omega⟩
  have i9 : iv z6 18 51 := ⟨by omega, by omega⟩
  refine k_i (r_S C h hl (As := [.int z1, .int z4, .int z6]) (rest := []) (s_J8_newLength_cabccX l D G b0 τ f t z1 i7 z4 i8 z6 i9) mk_J8_newLength_cabcc w_1115 w_1116 w_1117 ⟨Nat.le_of_ble_eq_true rfl, Nat.le_of_ble_eq_true rfl⟩ rfl (Nat.le_of_ble_eq_true rfl) ⟨Nat.le_of_ble_eq_true rfl, Nat.le_of_ble_eq_true rfl⟩ rfl dJ5_newCapacity_0f7a4_29) h (fun r10 f11 H locs p12 h => ?_)
  obtain ⟨ir10, tf11, ogf11, x0r10, x1r10⟩ := p12
  have egf11 := Fr.nil2 ogf11
  subst egf11
  have i13 : iv r10 16 100 := ⟨by omega, by omega⟩
  refine lv_istore (lv' := [(5, .int r10), (4, .int z4), (3, .int z3), (2, .int z1), (0, .ref u0), (1, .int u1)]) hx hb dJ5_newCapacity_0f7a4_32 hl (by decide) rfl (fun ls hl => ?_)
  refine lv_iload hx hb dJ5_newCapacity_0f7a4_34 (lv_at hl 0 rfl) ?_
  refine lv_ldc (v := 2147483647) hx hb hown (hts _ w_1123) dJ5_newCapacity_0f7a4_36 ?_
  refine lv_icmp_ne (tgt := 51) hx hb dJ5_newCapacity_0f7a4_38 (by decide) (fun c14 => ?_) (fun c14 => ?_)
  · have c15 : r10.toInt ≠ 2147483647 := fun z_ => c14 (Int32.toInt_inj.mp z_)
    refine lv_iload hx hb dJ5_newCapacity_0f7a4_51 (lv_at hl 0 rfl) ?_
    refine lv_aload_n hx hb dJ5_newCapacity_0f7a4_53 rfl (lv_at hl 4 rfl) ?_
    refine t_geti C h t hu0 (by decide) wf_52 rfl fl_J5_22 dJ5_newCapacity_0f7a4_54 (fun z17 iz17 => ?_)
    obtain rfl : (0 : Int32) = z17 := Int32.toInt_inj.mp (by have n_ : (0 : Int32).toInt = 0 := rfl; omega)
    refine lv_ishr hx hb dJ5_newCapacity_0f7a4_57 (i_topm (P := fun q_ => q_ = Int32.toInt r10) (show _ ∧ _ by rw [sb_shr0]; exact ⟨rfl, i13⟩) (fun z18 ez18 mz18 iz18 => ?_))
    exact u_iret C h hr hQ (⟨iz18, t, o, (by omega)⟩) (Nat.le_of_ble_eq_true rfl) (Nat.le_of_ble_eq_true rfl) dJ5_newCapacity_0f7a4_58
  · have c16 : r10.toInt = 2147483647 := congrArg Int32.toInt c14
    exact (iv_cq_ c16 i13 (iv_k (x := 2147483647) (k := 2147483647) rfl) (by decide)).elim
abbrev rm_s_J7_copyOf_9075bX : Room := { frames := 1, cells := 1, slots := 100, locals := 60 }
set_option maxRecDepth 100000 in
set_option maxHeartbeats 4000000 in
theorem s_J7_copyOf_9075bX (l : Launch) (D : va_G) (G : Nat → Nat) (b0 : Nat) (τ : Nat → Nat) (f : hM) (t : TI G 9 τ f) (u0 : Nat) (hu0 : τ u0 = 53) (u1 : Int32) (hu1 : iv u1 16 100) (nrv : Nat) (rv : Nat → Int32) (hRu0 : atp f u0 (bvr G nrv rv)) (hr0 : (nrv : Int) < u1.toInt) : mQ l yJ7_copyOf_9075b cJ7_copyOf_9075b 3 (.array .byte) rm_s_J7_copyOf_9075bX D G b0 f [.ref u0, .int u1] (fun r f1 => (∃ τ1, Ex τ τ1 ∧ (∃ z, r = some z ∧ τ1 z = 53) ∧ TI G 9 τ1 f1 ∧ Fr [0, 53] τ f f1 ∧ (∃ (z n1 : Nat) (r1 : Nat → Int32), r = some z ∧ atp f1 z (bvr G n1 r1) ∧ (n1 : Int) = u1.toInt))) := by
  refine met2 (own := RJ7) (by decide) rfl (Nat.le_of_ble_eq_true rfl) ?_
  intro p e s m args below meth c ls Q hQ C hr hini hl h
  have hl : lv_has ls 3 [(0, .ref u0), (1, .int u1)] := hl
  obtain ⟨hx, hb, hml, hown, hts, hE0, hlk⟩ := id C
  have o := Fr.rf [0, 53] τ f
  have hbv := (bv_at t hu0 hRu0).1
  refine lv_iload_n hx hb dJ7_copyOf_9075b_0 rfl (lv_at hl 1 rfl) ?_
  refine lv_aload_n hx hb dJ7_copyOf_9075b_1 rfl (lv_at hl 0 rfl) ?_
  refine e_bvlen C h t hu0 hRu0 dJ7_copyOf_9075b_2 (fun za_1 mza_1 iza_1 => ?_)
  refine lv_icmp_ne (tgt := 14) hx hb dJ7_copyOf_9075b_3 (by decide) (fun ca_2 => ?_) (fun ca_2 => ?_)
  · have ca_3 : u1.toInt ≠ za_1.toInt := fun z_ => ca_2 (Int32.toInt_inj.mp z_)
    refine lv_iload_n hx hb dJ7_copyOf_9075b_14 rfl (lv_at hl 1 rfl) ?_
    refine e_bvnew C h t o (by decide) hu1 w_378 (Nat.le_of_ble_eq_true rfl) (Nat.le_of_ble_eq_true rfl) dJ7_copyOf_9075b_15 (fun qa_4 fa_5 H nqa_4 h tfa_5 esqa_4 ozfa_5 krqa_4 hn_ => ?_)
    have ka_6 := atp.tr hRu0 (hn_ _ (fun z_ => by have h_ := hu0; rw [z_] at h_; exact absurd (h_.symm.trans (TI.zero t nqa_4)) (by decide)))
    have tqqa_4 : (tu τ qa_4 53) qa_4 = 53 := tu_self _ _ _
    have Ofa_5 : Fr [0, 53] τ f fa_5 := ozfa_5
    have xfa_5 : Ex τ (tu τ qa_4 53) := esqa_4
    have ha_7 : (tu τ qa_4 53) u0 = 53 := Ex.at esqa_4 hu0 (by decide)
    have ofa_5z := Fr.rf [0, 53] (tu τ qa_4 53) fa_5
    refine lv_astore_n (lv' := [(2, .ref qa_4), (0, .ref u0), (1, .int u1)]) hx hb dJ7_copyOf_9075b_17 rfl hl (by decide) rfl (fun ls hl => ?_)
    refine lv_aload_n hx hb dJ7_copyOf_9075b_18 rfl (lv_at hl 1 rfl) ?_
    refine lv_iconst (v := 0) hx hb dJ7_copyOf_9075b_19 (by decide) ?_
    refine lv_aload_n hx hb dJ7_copyOf_9075b_20 rfl (lv_at hl 0 rfl) ?_
    refine lv_iconst (v := 0) hx hb dJ7_copyOf_9075b_21 (by decide) ?_
    refine lv_aload_n hx hb dJ7_copyOf_9075b_22 rfl (lv_at hl 1 rfl) ?_
    refine e_bvlen C h tfa_5 ha_7 ka_6 dJ7_copyOf_9075b_23 (fun za_8 mza_8 iza_8 => ?_)
    refine lv_iload_n hx hb dJ7_copyOf_9075b_24 rfl (lv_at hl 2 rfl) ?_
    refine va_mmin hx hb (hml.trans hl.1.symm) hown (hts _ w_547) (hts _ w_548) (hts _ w_112) (hts _ w_549) (Nat.le_of_ble_eq_true rfl) (Nat.le_of_ble_eq_true rfl) (Nat.le_of_ble_eq_true rfl) (Nat.le_of_ble_eq_true rfl) dJ7_copyOf_9075b_25 (i_min iza_8 hu1 (lo := 16) (hi := 100) (by decide) (fun za_9 mza_9 iza_9 => ?_))
    have hb0 := bv_at tfa_5 ha_7 ka_6
    have hb1 := bv_at tfa_5 tqqa_4 krqa_4
    have hc4 : (0 : Int32).toNatClampNeg + Int32.toNatClampNeg za_9 ≤ nrv := by show 0 + Int.toNat _ ≤ _; omega
    have hc5 : (0 : Int32).toNatClampNeg + Int32.toNatClampNeg za_9 ≤ u1.toInt.toNat := by show 0 + Int.toNat _ ≤ _; omega
    have hc3 : ¬ za_9 < 0 := fun z_ => by have h_ := Int32.lt_iff_toInt_lt.mp z_; have n_ : (0 : Int32).toInt = 0 := rfl; omega
    refine q_copyB C h hl w_550 w_552 w_551 w_116 (eqc_some ka_6) (eqc_some krqa_4) (sp := 0) (dp := 0) (by decide) (by decide) hc3 hc4 hc5 (fun i_ hi_ => byt_fit hb0.2 _) (Nat.le_of_ble_eq_true rfl) (Nat.le_of_ble_eq_true rfl) dJ7_copyOf_9075b_28 (fun H locs h => ?_)
    have tfa_10 := TI.bv tfa_5 tqqa_4 hb1.1 (byt_cpy hb0.2 hb1.2 (0 : Int32).toNatClampNeg (0 : Int32).toNatClampNeg (Int32.toNatClampNeg za_9))
    have ofa_10 := Fr.upA (e := (.inl (G 0, u1.toInt.toNat, .inl (va_cpy rv ((fun _ => 0)) (0 : Int32).toNatClampNeg (0 : Int32).toNatClampNeg (Int32.toNatClampNeg za_9))))) ofa_5z tqqa_4 (by decide) (eqc_some krqa_4)
    have hq := hu_tg (f := fa_5) tqqa_4 (.inl (G 0, u1.toInt.toNat, .inl (va_cpy rv ((fun _ => 0)) (0 : Int32).toNatClampNeg (0 : Int32).toNatClampNeg (Int32.toNatClampNeg za_9))))
    have hn_ : ∀ q, q ≠ qa_4 → hu fa_5 qa_4 (.inl (G 0, u1.toInt.toNat, .inl (va_cpy rv ((fun _ => 0)) (0 : Int32).toNatClampNeg (0 : Int32).toNatClampNeg (Int32.toNatClampNeg za_9)))) q = fa_5 q := fun q hq_ => hu_ne hq_
    have kzfa_10 : atp (hu fa_5 qa_4 (.inl (G 0, u1.toInt.toNat, .inl (va_cpy rv ((fun _ => 0)) (0 : Int32).toNatClampNeg (0 : Int32).toNatClampNeg (Int32.toNatClampNeg za_9))))) qa_4 (bvr G u1.toInt.toNat (va_cpy rv ((fun _ => 0)) (0 : Int32).toNatClampNeg (0 : Int32).toNatClampNeg (Int32.toNatClampNeg za_9))) := ⟨_, hu_self _ _ _, rfl⟩
    generalize hu fa_5 qa_4 (.inl (G 0, u1.toInt.toNat, .inl (va_cpy rv ((fun _ => 0)) (0 : Int32).toNatClampNeg (0 : Int32).toNatClampNeg (Int32.toNatClampNeg za_9)))) = fa_10 at h tfa_10 ofa_10 hq hn_ kzfa_10
    generalize ewfa_10 : (va_cpy rv ((fun _ => 0)) (0 : Int32).toNatClampNeg (0 : Int32).toNatClampNeg (Int32.toNatClampNeg za_9)) = rwfa_10 at kzfa_10
    refine lv_aload_n hx hb dJ7_copyOf_9075b_31 rfl (lv_at hl 0 rfl) ?_
    exact u_aret C h hr (Or.inr ⟨_, rfl⟩) hQ (v := some qa_4) (⟨(tu τ qa_4 53), xfa_5, ⟨_, rfl, tqqa_4⟩, tfa_10, (Fr.tr Ofa_5 (Fr.cv xfa_5 ofa_10 (by decide) (fun _ h_ => h_)) (fun _ h_ => h_) (fun _ h_ => h_)), ⟨qa_4, u1.toInt.toNat, rwfa_10, rfl, kzfa_10, by omega⟩⟩) (Nat.le_of_ble_eq_true rfl) (Nat.le_of_ble_eq_true rfl) rfl dJ7_copyOf_9075b_32
  · have ca_3 : u1.toInt = za_1.toInt := congrArg Int32.toInt ca_2
    exfalso; omega
