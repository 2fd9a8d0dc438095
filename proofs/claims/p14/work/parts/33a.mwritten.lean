theorem dX11_says_0 : decode cX11_says 0 = .ok (.iconst 0, 1) := by decide +kernel
theorem dX11_says_1 : decode cX11_says 1 = .ok (.istore_n 2, 1) := by decide +kernel
theorem dX11_says_2 : decode cX11_says 2 = .ok (.iload_n 2, 1) := by decide +kernel
theorem dX11_says_3 : decode cX11_says 3 = .ok (.aload_n 1, 1) := by decide +kernel
theorem dX11_says_4 : decode cX11_says 4 = .ok (.invokevirtual 103, 3) := by decide +kernel
theorem dX11_says_7 : decode cX11_says 7 = .ok (.if_icmp .ge 33, 3) := by decide +kernel
theorem dX11_says_10 : decode cX11_says 10 = .ok (.aload_n 0, 1) := by decide +kernel
theorem dX11_says_11 : decode cX11_says 11 = .ok (.getfield 72, 3) := by decide +kernel
theorem w_1463 : Cond.fieldLink "QuarterWalksModel" 72 "QuarterWalksModel" "said" "[I" ∈ wAll := wI6 168 (by decide +kernel) (by decide +kernel)
theorem fl_X11_72 : fl RX11 72 12 30 := ⟨RX11, TX11, 32, rfl, inA_X11, by decide, w_1463⟩
theorem dX11_says_14 : decode cX11_says 14 = .ok (.aload_n 0, 1) := by decide +kernel
theorem dX11_says_15 : decode cX11_says 15 = .ok (.getfield 417, 3) := by decide +kernel
theorem w_1464 : Cond.fieldLink "QuarterWalksModel" 417 "QuarterWalksModel" "says" "I" ∈ wAll := wI6 169 (by decide +kernel) (by decide +kernel)
theorem fl_X11_417 : fl RX11 417 12 31 := ⟨RX11, TX11, 32, rfl, inA_X11, by decide, w_1464⟩
theorem dX11_says_18 : decode cX11_says 18 = .ok (.aload_n 1, 1) := by decide +kernel
theorem dX11_says_19 : decode cX11_says 19 = .ok (.iload_n 2, 1) := by decide +kernel
theorem dX11_says_20 : decode cX11_says 20 = .ok (.invokevirtual 107, 3) := by decide +kernel
theorem dX11_says_23 : decode cX11_says 23 = .ok (.iastore, 1) := by decide +kernel
theorem dX11_says_24 : decode cX11_says 24 = .ok (.aload_n 0, 1) := by decide +kernel
theorem dX11_says_25 : decode cX11_says 25 = .ok (.dup, 1) := by decide +kernel
theorem dX11_says_26 : decode cX11_says 26 = .ok (.getfield 417, 3) := by decide +kernel
theorem dX11_says_29 : decode cX11_says 29 = .ok (.iconst 1, 1) := by decide +kernel
theorem dX11_says_30 : decode cX11_says 30 = .ok (.iadd, 1) := by decide +kernel
theorem dX11_says_31 : decode cX11_says 31 = .ok (.putfield 417, 3) := by decide +kernel
theorem flw_X11_417 : flw RX11 417 12 31 (.int) := ⟨RX11, TX11, 32, tyX11, rfl, inA_X11, by decide, w_1464, tyX11_ok, nmX11, by decide +kernel, Or.inl rfl⟩
theorem dX11_says_34 : decode cX11_says 34 = .ok (.iinc 2 1, 3) := by decide +kernel
theorem dX11_says_37 : decode cX11_says 37 = .ok (.goto (-35), 3) := by decide +kernel
theorem dX11_says_40 : decode cX11_says 40 = .ok (.return_, 1) := by decide +kernel
theorem dX11_saysDigit_0 : decode cX11_saysDigit 0 = .ok (.aload_n 0, 1) := by decide +kernel
theorem dX11_saysDigit_1 : decode cX11_saysDigit 1 = .ok (.getfield 72, 3) := by decide +kernel
theorem dX11_saysDigit_4 : decode cX11_saysDigit 4 = .ok (.aload_n 0, 1) := by decide +kernel
theorem dX11_saysDigit_5 : decode cX11_saysDigit 5 = .ok (.getfield 417, 3) := by decide +kernel
theorem dX11_saysDigit_8 : decode cX11_saysDigit 8 = .ok (.bipush 48, 2) := by decide +kernel
theorem dX11_saysDigit_10 : decode cX11_saysDigit 10 = .ok (.iload_n 1, 1) := by decide +kernel
theorem dX11_saysDigit_11 : decode cX11_saysDigit 11 = .ok (.iadd, 1) := by decide +kernel
theorem dX11_saysDigit_12 : decode cX11_saysDigit 12 = .ok (.iastore, 1) := by decide +kernel
theorem dX11_saysDigit_13 : decode cX11_saysDigit 13 = .ok (.aload_n 0, 1) := by decide +kernel
theorem dX11_saysDigit_14 : decode cX11_saysDigit 14 = .ok (.dup, 1) := by decide +kernel
theorem dX11_saysDigit_15 : decode cX11_saysDigit 15 = .ok (.getfield 417, 3) := by decide +kernel
theorem dX11_saysDigit_18 : decode cX11_saysDigit 18 = .ok (.iconst 1, 1) := by decide +kernel
theorem dX11_saysDigit_19 : decode cX11_saysDigit 19 = .ok (.iadd, 1) := by decide +kernel
theorem dX11_saysDigit_20 : decode cX11_saysDigit 20 = .ok (.putfield 417, 3) := by decide +kernel
theorem dX11_saysDigit_23 : decode cX11_saysDigit 23 = .ok (.return_, 1) := by decide +kernel
theorem dX11_writes_0 : decode cX11_writes 0 = .ok (.aload_n 0, 1) := by decide +kernel
theorem dX11_writes_1 : decode cX11_writes 1 = .ok (.iconst 0, 1) := by decide +kernel
theorem dX11_writes_2 : decode cX11_writes 2 = .ok (.putfield 417, 3) := by decide +kernel
theorem dX11_writes_5 : decode cX11_writes 5 = .ok (.iconst 0, 1) := by decide +kernel
theorem dX11_writes_6 : decode cX11_writes 6 = .ok (.istore_n 2, 1) := by decide +kernel
theorem dX11_writes_7 : decode cX11_writes 7 = .ok (.iload_n 2, 1) := by decide +kernel
theorem dX11_writes_8 : decode cX11_writes 8 = .ok (.bipush 8, 2) := by decide +kernel
theorem dX11_writes_10 : decode cX11_writes 10 = .ok (.if_icmp .ge 65, 3) := by decide +kernel
theorem dX11_writes_13 : decode cX11_writes 13 = .ok (.aload_n 0, 1) := by decide +kernel
theorem dX11_writes_14 : decode cX11_writes 14 = .ok (.iload_n 1, 1) := by decide +kernel
theorem dX11_writes_15 : decode cX11_writes 15 = .ok (.iload_n 2, 1) := by decide +kernel
theorem dX11_writes_16 : decode cX11_writes 16 = .ok (.invokevirtual 175, 3) := by decide +kernel
theorem dX11_writes_19 : decode cX11_writes 19 = .ok (.istore_n 3, 1) := by decide +kernel
theorem dX11_writes_20 : decode cX11_writes 20 = .ok (.iload_n 3, 1) := by decide +kernel
theorem dX11_writes_21 : decode cX11_writes 21 = .ok (.ifCond .ne 6, 3) := by decide +kernel
theorem dX11_writes_27 : decode cX11_writes 27 = .ok (.aload_n 0, 1) := by decide +kernel
theorem dX11_writes_28 : decode cX11_writes 28 = .ok (.getfield 417, 3) := by decide +kernel
theorem dX11_writes_31 : decode cX11_writes 31 = .ok (.ifCond .le 10, 3) := by decide +kernel
theorem dX11_writes_41 : decode cX11_writes 41 = .ok (.aload_n 0, 1) := by decide +kernel
theorem dX11_writes_42 : decode cX11_writes 42 = .ok (.iload_n 2, 1) := by decide +kernel
theorem dX11_writes_43 : decode cX11_writes 43 = .ok (.invokestatic 425, 3) := by decide +kernel
theorem mk_X11_nameOf : mk yX11_nameOf 1 := ⟨by decide +kernel, w_110⟩
theorem w_2010 : Cond.methodLink "QuarterWalksModel" 425 yX11_nameOf ∈ wAll := wI8 235 (by decide +kernel) (by decide +kernel)
theorem w_2011 : Cond.static yX11_nameOf ∈ wAll := wI8 236 (by decide +kernel) (by decide +kernel)
theorem w_2012 : Cond.code yX11_nameOf cX11_nameOf 1 (some (.object "java/lang/String")) ∈ wAll := wI8 237 (by decide +kernel) (by decide +kernel)
theorem dX11_writes_46 : decode cX11_writes 46 = .ok (.invokevirtual 422, 3) := by decide +kernel
theorem w_2006 : Cond.methodLink "QuarterWalksModel" 422 yX11_says ∈ wAll := wI8 231 (by decide +kernel) (by decide +kernel)
theorem w_89 : Cond.selects yX11_says.cls yX11_says yX11_says ∈ wAll := wIn 89 (by decide +kernel) (by decide +kernel)
theorem mk_X11_says : mk yX11_says 1 := ⟨by decide +kernel, w_110⟩
theorem w_2008 : Cond.instanceMethod yX11_says ∈ wAll := wI8 233 (by decide +kernel) (by decide +kernel)
theorem w_2009 : Cond.code yX11_says cX11_says 3 none ∈ wAll := wI8 234 (by decide +kernel) (by decide +kernel)
theorem dX11_writes_49 : decode cX11_writes 49 = .ok (.iload_n 3, 1) := by decide +kernel
theorem dX11_writes_50 : decode cX11_writes 50 = .ok (.iconst 1, 1) := by decide +kernel
theorem dX11_writes_51 : decode cX11_writes 51 = .ok (.if_icmp .ne 6, 3) := by decide +kernel
theorem dX11_writes_57 : decode cX11_writes 57 = .ok (.aload_n 0, 1) := by decide +kernel
theorem dX11_writes_58 : decode cX11_writes 58 = .ok (.ldc_w 420, 3) := by decide +kernel
theorem dX11_writes_61 : decode cX11_writes 61 = .ok (.invokevirtual 422, 3) := by decide +kernel
theorem dX11_writes_64 : decode cX11_writes 64 = .ok (.aload_n 0, 1) := by decide +kernel
theorem dX11_writes_65 : decode cX11_writes 65 = .ok (.iload_n 3, 1) := by decide +kernel
theorem dX11_writes_66 : decode cX11_writes 66 = .ok (.invokevirtual 429, 3) := by decide +kernel
theorem w_2013 : Cond.methodLink "QuarterWalksModel" 429 yX11_saysDigit ∈ wAll := wI8 238 (by decide +kernel) (by decide +kernel)
theorem w_90 : Cond.selects yX11_saysDigit.cls yX11_saysDigit yX11_saysDigit ∈ wAll := wIn 90 (by decide +kernel) (by decide +kernel)
theorem mk_X11_saysDigit : mk yX11_saysDigit 1 := ⟨by decide +kernel, w_110⟩
theorem w_2015 : Cond.instanceMethod yX11_saysDigit ∈ wAll := wI9 0 (by decide +kernel) (by decide +kernel)
theorem w_2016 : Cond.code yX11_saysDigit cX11_saysDigit 2 none ∈ wAll := wI9 1 (by decide +kernel) (by decide +kernel)
theorem dX11_writes_54 : decode cX11_writes 54 = .ok (.goto 15, 3) := by decide +kernel
theorem dX11_writes_34 : decode cX11_writes 34 = .ok (.aload_n 0, 1) := by decide +kernel
theorem dX11_writes_35 : decode cX11_writes 35 = .ok (.ldc_w 420, 3) := by decide +kernel
theorem dX11_writes_38 : decode cX11_writes 38 = .ok (.invokevirtual 422, 3) := by decide +kernel
theorem dX11_writes_24 : decode cX11_writes 24 = .ok (.goto 45, 3) := by decide +kernel
theorem dX11_writes_69 : decode cX11_writes 69 = .ok (.iinc 2 1, 3) := by decide +kernel
theorem dX11_writes_72 : decode cX11_writes 72 = .ok (.goto (-65), 3) := by decide +kernel
theorem dX11_writes_75 : decode cX11_writes 75 = .ok (.aload_n 0, 1) := by decide +kernel
theorem dX11_writes_76 : decode cX11_writes 76 = .ok (.iload_n 1, 1) := by decide +kernel
theorem dX11_writes_77 : decode cX11_writes 77 = .ok (.bipush 8, 2) := by decide +kernel
theorem dX11_writes_79 : decode cX11_writes 79 = .ok (.invokevirtual 175, 3) := by decide +kernel
theorem dX11_writes_82 : decode cX11_writes 82 = .ok (.aload_n 0, 1) := by decide +kernel
theorem dX11_writes_83 : decode cX11_writes 83 = .ok (.iload_n 1, 1) := by decide +kernel
theorem dX11_writes_84 : decode cX11_writes 84 = .ok (.bipush 9, 2) := by decide +kernel
theorem dX11_writes_86 : decode cX11_writes 86 = .ok (.invokevirtual 175, 3) := by decide +kernel
theorem dX11_writes_89 : decode cX11_writes 89 = .ok (.iadd, 1) := by decide +kernel
theorem dX11_writes_90 : decode cX11_writes 90 = .ok (.ifCond .ne 4, 3) := by decide +kernel
theorem dX11_writes_94 : decode cX11_writes 94 = .ok (.aload_n 0, 1) := by decide +kernel
theorem dX11_writes_95 : decode cX11_writes 95 = .ok (.ldc_w 432, 3) := by decide +kernel
theorem dX11_writes_98 : decode cX11_writes 98 = .ok (.invokevirtual 422, 3) := by decide +kernel
theorem dX11_writes_101 : decode cX11_writes 101 = .ok (.aload_n 0, 1) := by decide +kernel
theorem dX11_writes_102 : decode cX11_writes 102 = .ok (.aload_n 0, 1) := by decide +kernel
theorem dX11_writes_103 : decode cX11_writes 103 = .ok (.iload_n 1, 1) := by decide +kernel
theorem dX11_writes_104 : decode cX11_writes 104 = .ok (.bipush 8, 2) := by decide +kernel
theorem dX11_writes_106 : decode cX11_writes 106 = .ok (.invokevirtual 175, 3) := by decide +kernel
theorem dX11_writes_109 : decode cX11_writes 109 = .ok (.invokevirtual 429, 3) := by decide +kernel
theorem dX11_writes_112 : decode cX11_writes 112 = .ok (.aload_n 0, 1) := by decide +kernel
theorem dX11_writes_113 : decode cX11_writes 113 = .ok (.ldc_w 420, 3) := by decide +kernel
theorem dX11_writes_116 : decode cX11_writes 116 = .ok (.invokevirtual 422, 3) := by decide +kernel
theorem dX11_writes_119 : decode cX11_writes 119 = .ok (.aload_n 0, 1) := by decide +kernel
theorem dX11_writes_120 : decode cX11_writes 120 = .ok (.aload_n 0, 1) := by decide +kernel
theorem dX11_writes_121 : decode cX11_writes 121 = .ok (.iload_n 1, 1) := by decide +kernel
theorem dX11_writes_122 : decode cX11_writes 122 = .ok (.bipush 9, 2) := by decide +kernel
theorem dX11_writes_124 : decode cX11_writes 124 = .ok (.invokevirtual 175, 3) := by decide +kernel
theorem dX11_writes_127 : decode cX11_writes 127 = .ok (.invokevirtual 429, 3) := by decide +kernel
theorem dX11_writes_130 : decode cX11_writes 130 = .ok (.return_, 1) := by decide +kernel
theorem dX11_writes_93 : decode cX11_writes 93 = .ok (.return_, 1) := by decide +kernel
theorem dX11_written_0 : decode cX11_written 0 = .ok (.aload_n 0, 1) := by decide +kernel
theorem dX11_written_1 : decode cX11_written 1 = .ok (.iconst 0, 1) := by decide +kernel
theorem dX11_written_2 : decode cX11_written 2 = .ok (.putfield 75, 3) := by decide +kernel
theorem dX11_written_5 : decode cX11_written 5 = .ok (.aload_n 0, 1) := by decide +kernel
theorem dX11_written_6 : decode cX11_written 6 = .ok (.iload_n 1, 1) := by decide +kernel
theorem dX11_written_7 : decode cX11_written 7 = .ok (.invokevirtual 171, 3) := by decide +kernel
theorem dX11_written_10 : decode cX11_written 10 = .ok (.ifCond .ne 5, 3) := by decide +kernel
theorem dX11_written_15 : decode cX11_written 15 = .ok (.aload_n 0, 1) := by decide +kernel
theorem dX11_written_16 : decode cX11_written 16 = .ok (.iload_n 1, 1) := by decide +kernel
theorem dX11_written_17 : decode cX11_written 17 = .ok (.invokevirtual 434, 3) := by decide +kernel
theorem w_2001 : Cond.methodLink "QuarterWalksModel" 434 yX11_writes ∈ wAll := wI8 226 (by decide +kernel) (by decide +kernel)
theorem w_88 : Cond.selects yX11_writes.cls yX11_writes yX11_writes ∈ wAll := wIn 88 (by decide +kernel) (by decide +kernel)
theorem mk_X11_writes : mk yX11_writes 1 := ⟨by decide +kernel, w_110⟩
theorem w_2003 : Cond.instanceMethod yX11_writes ∈ wAll := wI8 228 (by decide +kernel) (by decide +kernel)
theorem w_2004 : Cond.code yX11_writes cX11_writes 4 none ∈ wAll := wI8 229 (by decide +kernel) (by decide +kernel)
theorem dX11_written_20 : decode cX11_written 20 = .ok (.iload_n 2, 1) := by decide +kernel
theorem dX11_written_21 : decode cX11_written 21 = .ok (.iconst (-1), 1) := by decide +kernel
theorem dX11_written_22 : decode cX11_written 22 = .ok (.if_icmp .ne 10, 3) := by decide +kernel
theorem dX11_written_32 : decode cX11_written 32 = .ok (.iload_n 2, 1) := by decide +kernel
theorem dX11_written_33 : decode cX11_written 33 = .ok (.i2l, 1) := by decide +kernel
theorem dX11_written_34 : decode cX11_written 34 = .ok (.lconst 0, 1) := by decide +kernel
theorem dX11_written_35 : decode cX11_written 35 = .ok (.aload_n 0, 1) := by decide +kernel
theorem dX11_written_36 : decode cX11_written 36 = .ok (.getfield 417, 3) := by decide +kernel
theorem dX11_written_39 : decode cX11_written 39 = .ok (.iconst 1, 1) := by decide +kernel
theorem dX11_written_40 : decode cX11_written 40 = .ok (.isub, 1) := by decide +kernel
theorem dX11_written_41 : decode cX11_written 41 = .ok (.i2l, 1) := by decide +kernel
theorem dX11_written_42 : decode cX11_written 42 = .ok (.invokestatic 158, 3) := by decide +kernel
theorem dX11_written_45 : decode cX11_written 45 = .ok (.ifCond .eq 12, 3) := by decide +kernel
theorem dX11_written_57 : decode cX11_written 57 = .ok (.iconst (-1), 1) := by decide +kernel
theorem dX11_written_48 : decode cX11_written 48 = .ok (.aload_n 0, 1) := by decide +kernel
theorem dX11_written_49 : decode cX11_written 49 = .ok (.getfield 72, 3) := by decide +kernel
theorem dX11_written_52 : decode cX11_written 52 = .ok (.iload_n 2, 1) := by decide +kernel
theorem dX11_written_53 : decode cX11_written 53 = .ok (.iaload, 1) := by decide +kernel
theorem dX11_written_54 : decode cX11_written 54 = .ok (.goto 4, 3) := by decide +kernel
theorem dX11_written_25 : decode cX11_written 25 = .ok (.aload_n 0, 1) := by decide +kernel
theorem dX11_written_26 : decode cX11_written 26 = .ok (.getfield 417, 3) := by decide +kernel
theorem dX11_written_29 : decode cX11_written 29 = .ok (.goto 29, 3) := by decide +kernel
theorem dX11_written_13 : decode cX11_written 13 = .ok (.iconst (-1), 1) := by decide +kernel
theorem dX11_written_58 : decode cX11_written 58 = .ok (.ireturn, 1) := by decide +kernel
theorem dX11_written_14 : decode cX11_written 14 = .ok (.ireturn, 1) := by decide +kernel
abbrev rm_s_X11_saysX0 : Room := { frames := 4, cells := 0, slots := 0, locals := 85 }
set_option maxRecDepth 100000 in
set_option maxHeartbeats 4000000 in
theorem s_X11_saysX0 (l : Launch) (D : va_G) (G : Nat → Nat) (b0 : Nat) (τ : Nat → Nat) (f : hM) (t : TI G 9 τ f) (u0 : Nat) (hu0 : τ u0 = 60) (sy : Int32) (hsy : iv sy 0 79) (k_u0_31 : atp f u0 (fd 31 (.int sy))) : mV l yX11_says cX11_says 3 rm_s_X11_saysX0 D G b0 f [.ref u0, .ref (G (20 + 0))] (fun f1 => TI G 9 τ f1 ∧ Fr [60, 77, 60032] τ f f1 ∧ (∃ sy1 : Int32, atp f1 u0 (fd 31 (.int sy1)) ∧ iv sy1 0 80 ∧ sy1.toInt = sy.toInt + 1)) := by
  refine met2 (own := RX11) (by decide) rfl (Nat.le_of_ble_eq_true rfl) ?_
  intro p e s m args below meth c ls Q hQ C hr hini hl h
  have hl : lv_has ls 3 [(0, .ref u0), (1, .ref (G (20 + 0)))] := hl
  obtain ⟨hx, hb, hml, hown, hts, hE0, hlk⟩ := id C
  have o := Fr.rf [60, 77, 60032] τ f
  refine lv_iconst (v := 0) hx hb dX11_says_0 (by decide) ?_
  refine lv_istore_n (lv' := [(2, .int 0), (0, .ref u0), (1, .ref (G (20 + 0)))]) hx hb dX11_says_1 rfl hl (by decide) rfl (fun ls hl => ?_)
  refine lv_iload_n hx hb dX11_says_2 rfl (lv_at hl 0 rfl) ?_
  refine lv_aload_n hx hb dX11_says_3 rfl (lv_at hl 2 rfl) ?_
  have hrv := vk_recv hE0.2.2.2.2.2.2.2.2.2.1 (i := 0) (by decide) h.2.2.1
  refine k_i (r_VK C h hl (As := []) (rest := [.int 0]) (c_length l D G b0 f 0 (by decide)) hrv mk_J0_length_8abf5 w_1574 w_1252 w_1253 w_1254 ⟨(Nat.le_of_ble_eq_true rfl), (Nat.le_of_ble_eq_true rfl)⟩ rfl (Nat.le_of_ble_eq_true rfl) ⟨(Nat.le_of_ble_eq_true rfl), (Nat.le_of_ble_eq_true rfl)⟩ rfl dX11_says_4) h (fun r1 f2 H locs p3 h => ?_)
  obtain ⟨er1, rfl⟩ := p3
  obtain rfl : (1 : Int32) = r1 := by rw [er1]; decide
  refine lv_icmp_ge (tgt := 40) hx hb dX11_says_7 (by decide) (fun c4 => ?_) (fun c4 => ?_)
  · exact absurd c4 (by decide)
  · refine lv_aload_n hx hb dX11_says_10 rfl (lv_at hl 1 rfl) ?_
    refine t_getr (tq := 77) C h t hu0 (by decide) wf_60 rfl fl_X11_72 dX11_says_11 (fun q7 tq7 => ?_)
    refine lv_aload_n hx hb dX11_says_14 rfl (lv_at hl 1 rfl) ?_
    refine t_getfd C h t hu0 (by decide) wf_60 (v := .int sy) k_u0_31 fl_X11_417 dX11_says_15 ?_
    refine lv_aload_n hx hb dX11_says_18 rfl (lv_at hl 2 rfl) ?_
    refine lv_iload_n hx hb dX11_says_19 rfl (lv_at hl 0 rfl) ?_
    have hrv := vk_recv hE0.2.2.2.2.2.2.2.2.2.1 (i := 0) (by decide) h.2.2.1
    refine k_i (r_VK C h hl (As := [.int 0]) (rest := [.int sy, .ref q7]) (c_charAt l D G b0 f 0 (by decide) 0 (by decide) (by unfold vp_in; decide)) hrv mk_J0_charAt_5068e w_1575 w_473 w_474 w_475 ⟨(Nat.le_of_ble_eq_true rfl), (Nat.le_of_ble_eq_true rfl)⟩ rfl (Nat.le_of_ble_eq_true rfl) ⟨(Nat.le_of_ble_eq_true rfl), (Nat.le_of_ble_eq_true rfl)⟩ rfl dX11_says_20) h (fun r8 f9 H locs p10 h => ?_)
    obtain ⟨er8, rfl⟩ := p10
    obtain rfl : (110 : Int32) = r8 := by rw [er8]; decide
    refine t_iast C h t o tq7 (by decide) (by decide) wf_77 fw_77 (iv_in hsy (by decide)) ⟨by decide, by decide⟩ dX11_says_23 (fun f11 H locs h tf11 of11 hq => ?_)
    have k12 := atp.tg k_u0_31 hq hu0 (by decide)
    refine lv_aload_n hx hb dX11_says_24 rfl (lv_at hl 1 rfl) ?_
    refine lv_dup hx hb dX11_says_25 rfl ?_
    refine t_getfd C h tf11 hu0 (by decide) wf_60 (v := .int sy) k12 fl_X11_417 dX11_says_26 ?_
    refine lv_iconst (v := 1) hx hb dX11_says_29 (by decide) ?_
    refine i_addk hx hb dX11_says_30 hsy (k := 1) rfl (lo := 1) (hi := 80) (by decide) (fun z13 ez13 mz13 iz13 => ?_)
    refine t_put C h tf11 of11 hu0 (by decide) (by decide) (by decide) wf_60 fw_60 (k := 31) rfl flw_X11_417 (Or.inr ⟨_, _, _, rfl, rfl⟩) (v := .int z13) rfl rfl ⟨_, rfl, (iv_w iz13 (by decide))⟩ dX11_says_31 (fun f14 H locs h tf14 of14 hq ha_ hn_ hk_ => ?_)
    have k16 := ha_
    refine lv_iinc (v := 1) (lv' := [(2, .int 1), (0, .ref u0), (1, .ref (G (20 + 0)))]) hx hb dX11_says_34 hl (k := 0) rfl (by decide) (by decide) rfl (fun ls hl => ?_)
    refine lv_goto (tgt := 2) hx hb dX11_says_37 (by decide) ?_
    refine lv_iload_n hx hb dX11_says_2 rfl (lv_at hl 0 rfl) ?_
    refine lv_aload_n hx hb dX11_says_3 rfl (lv_at hl 2 rfl) ?_
    have hrv := vk_recv hE0.2.2.2.2.2.2.2.2.2.1 (i := 0) (by decide) h.2.2.1
    refine k_i (r_VK C h hl (As := []) (rest := [.int 1]) (c_length l D G b0 f14 0 (by decide)) hrv mk_J0_length_8abf5 w_1574 w_1252 w_1253 w_1254 ⟨(Nat.le_of_ble_eq_true rfl), (Nat.le_of_ble_eq_true rfl)⟩ rfl (Nat.le_of_ble_eq_true rfl) ⟨(Nat.le_of_ble_eq_true rfl), (Nat.le_of_ble_eq_true rfl)⟩ rfl dX11_says_4) h (fun r17 f18 H locs p19 h => ?_)
    obtain ⟨er17, rfl⟩ := p19
    obtain rfl : (1 : Int32) = r17 := by rw [er17]; decide
    refine lv_icmp_ge (tgt := 40) hx hb dX11_says_7 (by decide) (fun c20 => ?_) (fun c20 => ?_)
    · exact u_vret C h hr hQ (⟨tf14, of14, ⟨z13, k16, (iv_w iz13 (by decide)), (by omega)⟩⟩) (Nat.le_of_ble_eq_true rfl) (Nat.le_of_ble_eq_true rfl) dX11_says_40
    · exact absurd c20 (by decide)
abbrev rm_s_X11_saysX1 : Room := { frames := 4, cells := 0, slots := 0, locals := 85 }
set_option maxRecDepth 100000 in
set_option maxHeartbeats 4000000 in
theorem s_X11_saysX1 (l : Launch) (D : va_G) (G : Nat → Nat) (b0 : Nat) (τ : Nat → Nat) (f : hM) (t : TI G 9 τ f) (u0 : Nat) (hu0 : τ u0 = 60) (sy : Int32) (hsy : iv sy 0 78) (k_u0_31 : atp f u0 (fd 31 (.int sy))) : mV l yX11_says cX11_says 3 rm_s_X11_saysX1 D G b0 f [.ref u0, .ref (G (20 + 1))] (fun f1 => TI G 9 τ f1 ∧ Fr [60, 77, 60032] τ f f1 ∧ (∃ sy1 : Int32, atp f1 u0 (fd 31 (.int sy1)) ∧ iv sy1 0 80 ∧ sy1.toInt = sy.toInt + 2)) := by
  refine met2 (own := RX11) (by decide) rfl (Nat.le_of_ble_eq_true rfl) ?_
  intro p e s m args below meth c ls Q hQ C hr hini hl h
  have hl : lv_has ls 3 [(0, .ref u0), (1, .ref (G (20 + 1)))] := hl
  obtain ⟨hx, hb, hml, hown, hts, hE0, hlk⟩ := id C
  have o := Fr.rf [60, 77, 60032] τ f
  refine lv_iconst (v := 0) hx hb dX11_says_0 (by decide) ?_
  refine lv_istore_n (lv' := [(2, .int 0), (0, .ref u0), (1, .ref (G (20 + 1)))]) hx hb dX11_says_1 rfl hl (by decide) rfl (fun ls hl => ?_)
  refine lv_iload_n hx hb dX11_says_2 rfl (lv_at hl 0 rfl) ?_
  refine lv_aload_n hx hb dX11_says_3 rfl (lv_at hl 2 rfl) ?_
  have hrv := vk_recv hE0.2.2.2.2.2.2.2.2.2.1 (i := 1) (by decide) h.2.2.1
  refine k_i (r_VK C h hl (As := []) (rest := [.int 0]) (c_length l D G b0 f 1 (by decide)) hrv mk_J0_length_8abf5 w_1574 w_1252 w_1253 w_1254 ⟨(Nat.le_of_ble_eq_true rfl), (Nat.le_of_ble_eq_true rfl)⟩ rfl (Nat.le_of_ble_eq_true rfl) ⟨(Nat.le_of_ble_eq_true rfl), (Nat.le_of_ble_eq_true rfl)⟩ rfl dX11_says_4) h (fun r1 f2 H locs p3 h => ?_)
  obtain ⟨er1, rfl⟩ := p3
  obtain rfl : (2 : Int32) = r1 := by rw [er1]; decide
  refine lv_icmp_ge (tgt := 40) hx hb dX11_says_7 (by decide) (fun c4 => ?_) (fun c4 => ?_)
  · exact absurd c4 (by decide)
  · refine lv_aload_n hx hb dX11_says_10 rfl (lv_at hl 1 rfl) ?_
    refine t_getr (tq := 77) C h t hu0 (by decide) wf_60 rfl fl_X11_72 dX11_says_11 (fun q7 tq7 => ?_)
    refine lv_aload_n hx hb dX11_says_14 rfl (lv_at hl 1 rfl) ?_
    refine t_getfd C h t hu0 (by decide) wf_60 (v := .int sy) k_u0_31 fl_X11_417 dX11_says_15 ?_
    refine lv_aload_n hx hb dX11_says_18 rfl (lv_at hl 2 rfl) ?_
    refine lv_iload_n hx hb dX11_says_19 rfl (lv_at hl 0 rfl) ?_
    have hrv := vk_recv hE0.2.2.2.2.2.2.2.2.2.1 (i := 1) (by decide) h.2.2.1
    refine k_i (r_VK C h hl (As := [.int 0]) (rest := [.int sy, .ref q7]) (c_charAt l D G b0 f 1 (by decide) 0 (by decide) (by unfold vp_in; decide)) hrv mk_J0_charAt_5068e w_1575 w_473 w_474 w_475 ⟨(Nat.le_of_ble_eq_true rfl), (Nat.le_of_ble_eq_true rfl)⟩ rfl (Nat.le_of_ble_eq_true rfl) ⟨(Nat.le_of_ble_eq_true rfl), (Nat.le_of_ble_eq_true rfl)⟩ rfl dX11_says_20) h (fun r8 f9 H locs p10 h => ?_)
    obtain ⟨er8, rfl⟩ := p10
    obtain rfl : (110 : Int32) = r8 := by rw [er8]; decide
    refine t_iast C h t o tq7 (by decide) (by decide) wf_77 fw_77 (iv_in hsy (by decide)) ⟨by decide, by decide⟩ dX11_says_23 (fun f11 H locs h tf11 of11 hq => ?_)
    have k12 := atp.tg k_u0_31 hq hu0 (by decide)
    refine lv_aload_n hx hb dX11_says_24 rfl (lv_at hl 1 rfl) ?_
    refine lv_dup hx hb dX11_says_25 rfl ?_
    refine t_getfd C h tf11 hu0 (by decide) wf_60 (v := .int sy) k12 fl_X11_417 dX11_says_26 ?_
    refine lv_iconst (v := 1) hx hb dX11_says_29 (by decide) ?_
    refine i_addk hx hb dX11_says_30 hsy (k := 1) rfl (lo := 1) (hi := 79) (by decide) (fun z13 ez13 mz13 iz13 => ?_)
    refine t_put C h tf11 of11 hu0 (by decide) (by decide) (by decide) wf_60 fw_60 (k := 31) rfl flw_X11_417 (Or.inr ⟨_, _, _, rfl, rfl⟩) (v := .int z13) rfl rfl ⟨_, rfl, (iv_w iz13 (by decide))⟩ dX11_says_31 (fun f14 H locs h tf14 of14 hq ha_ hn_ hk_ => ?_)
    have k16 := ha_
    refine lv_iinc (v := 1) (lv' := [(2, .int 1), (0, .ref u0), (1, .ref (G (20 + 1)))]) hx hb dX11_says_34 hl (k := 0) rfl (by decide) (by decide) rfl (fun ls hl => ?_)
    refine lv_goto (tgt := 2) hx hb dX11_says_37 (by decide) ?_
    refine lv_iload_n hx hb dX11_says_2 rfl (lv_at hl 0 rfl) ?_
    refine lv_aload_n hx hb dX11_says_3 rfl (lv_at hl 2 rfl) ?_
    have hrv := vk_recv hE0.2.2.2.2.2.2.2.2.2.1 (i := 1) (by decide) h.2.2.1
    refine k_i (r_VK C h hl (As := []) (rest := [.int 1]) (c_length l D G b0 f14 1 (by decide)) hrv mk_J0_length_8abf5 w_1574 w_1252 w_1253 w_1254 ⟨(Nat.le_of_ble_eq_true rfl), (Nat.le_of_ble_eq_true rfl)⟩ rfl (Nat.le_of_ble_eq_true rfl) ⟨(Nat.le_of_ble_eq_true rfl), (Nat.le_of_ble_eq_true rfl)⟩ rfl dX11_says_4) h (fun r17 f18 H locs p19 h => ?_)
    obtain ⟨er17, rfl⟩ := p19
    obtain rfl : (2 : Int32) = r17 := by rw [er17]; decide
    refine lv_icmp_ge (tgt := 40) hx hb dX11_says_7 (by decide) (fun c20 => ?_) (fun c20 => ?_)
    · exact absurd c20 (by decide)
    · refine lv_aload_n hx hb dX11_says_10 rfl (lv_at hl 1 rfl) ?_
      refine t_getr (tq := 77) C h tf14 hu0 (by decide) wf_60 rfl fl_X11_72 dX11_says_11 (fun q23 tq23 => ?_)
      refine lv_aload_n hx hb dX11_says_14 rfl (lv_at hl 1 rfl) ?_
      refine t_getfd C h tf14 hu0 (by decide) wf_60 (v := .int z13) k16 fl_X11_417 dX11_says_15 ?_
      refine lv_aload_n hx hb dX11_says_18 rfl (lv_at hl 2 rfl) ?_
      refine lv_iload_n hx hb dX11_says_19 rfl (lv_at hl 0 rfl) ?_
      have hrv := vk_recv hE0.2.2.2.2.2.2.2.2.2.1 (i := 1) (by decide) h.2.2.1
      refine k_i (r_VK C h hl (As := [.int 1]) (rest := [.int z13, .ref q23]) (c_charAt l D G b0 f14 1 (by decide) 1 (by decide) (by unfold vp_in; decide)) hrv mk_J0_charAt_5068e w_1575 w_473 w_474 w_475 ⟨(Nat.le_of_ble_eq_true rfl), (Nat.le_of_ble_eq_true rfl)⟩ rfl (Nat.le_of_ble_eq_true rfl) ⟨(Nat.le_of_ble_eq_true rfl), (Nat.le_of_ble_eq_true rfl)⟩ rfl dX11_says_20) h (fun r24 f25 H locs p26 h => ?_)
      obtain ⟨er24, rfl⟩ := p26
      obtain rfl : (101 : Int32) = r24 := by rw [er24]; decide
      refine t_iast C h tf14 of14 tq23 (by decide) (by decide) wf_77 fw_77 (iv_in iz13 (by decide)) ⟨by decide, by decide⟩ dX11_says_23 (fun f27 H locs h tf27 of27 hq => ?_)
      have k28 := atp.tg k16 hq hu0 (by decide)
      refine lv_aload_n hx hb dX11_says_24 rfl (lv_at hl 1 rfl) ?_
      refine lv_dup hx hb dX11_says_25 rfl ?_
      refine t_getfd C h tf27 hu0 (by decide) wf_60 (v := .int z13) k28 fl_X11_417 dX11_says_26 ?_
      refine lv_iconst (v := 1) hx hb dX11_says_29 (by decide) ?_
      refine i_addk hx hb dX11_says_30 iz13 (k := 1) rfl (lo := 2) (hi := 80) (by decide) (fun z29 ez29 mz29 iz29 => ?_)
      refine t_put C h tf27 of27 hu0 (by decide) (by decide) (by decide) wf_60 fw_60 (k := 31) rfl flw_X11_417 (Or.inr ⟨_, _, _, rfl, rfl⟩) (v := .int z29) rfl rfl ⟨_, rfl, (iv_w iz29 (by decide))⟩ dX11_says_31 (fun f30 H locs h tf30 of30 hq ha_ hn_ hk_ => ?_)
      have k32 := ha_
      refine lv_iinc (v := 2) (lv' := [(2, .int 2), (0, .ref u0), (1, .ref (G (20 + 1)))]) hx hb dX11_says_34 hl (k := 0) rfl (by decide) (by decide) rfl (fun ls hl => ?_)
      refine lv_goto (tgt := 2) hx hb dX11_says_37 (by decide) ?_
      refine lv_iload_n hx hb dX11_says_2 rfl (lv_at hl 0 rfl) ?_
      refine lv_aload_n hx hb dX11_says_3 rfl (lv_at hl 2 rfl) ?_
      have hrv := vk_recv hE0.2.2.2.2.2.2.2.2.2.1 (i := 1) (by decide) h.2.2.1
      refine k_i (r_VK C h hl (As := []) (rest := [.int 2]) (c_length l D G b0 f30 1 (by decide)) hrv mk_J0_length_8abf5 w_1574 w_1252 w_1253 w_1254 ⟨(Nat.le_of_ble_eq_true rfl), (Nat.le_of_ble_eq_true rfl)⟩ rfl (Nat.le_of_ble_eq_true rfl) ⟨(Nat.le_of_ble_eq_true rfl), (Nat.le_of_ble_eq_true rfl)⟩ rfl dX11_says_4) h (fun r33 f34 H locs p35 h => ?_)
      obtain ⟨er33, rfl⟩ := p35
      obtain rfl : (2 : Int32) = r33 := by rw [er33]; decide
      refine lv_icmp_ge (tgt := 40) hx hb dX11_says_7 (by decide) (fun c36 => ?_) (fun c36 => ?_)
      · exact u_vret C h hr hQ (⟨tf30, of30, ⟨z29, k32, (iv_w iz29 (by decide)), (by omega)⟩⟩) (Nat.le_of_ble_eq_true rfl) (Nat.le_of_ble_eq_true rfl) dX11_says_40
      · exact absurd c36 (by decide)
abbrev rm_s_X11_saysX2 : Room := { frames := 4, cells := 0, slots := 0, locals := 85 }
set_option maxRecDepth 100000 in
set_option maxHeartbeats 4000000 in
theorem s_X11_saysX2 (l : Launch) (D : va_G) (G : Nat → Nat) (b0 : Nat) (τ : Nat → Nat) (f : hM) (t : TI G 9 τ f) (u0 : Nat) (hu0 : τ u0 = 60) (sy : Int32) (hsy : iv sy 0 79) (k_u0_31 : atp f u0 (fd 31 (.int sy))) : mV l yX11_says cX11_says 3 rm_s_X11_saysX2 D G b0 f [.ref u0, .ref (G (20 + 2))] (fun f1 => TI G 9 τ f1 ∧ Fr [60, 77, 60032] τ f f1 ∧ (∃ sy1 : Int32, atp f1 u0 (fd 31 (.int sy1)) ∧ iv sy1 0 80 ∧ sy1.toInt = sy.toInt + 1)) := by
  refine met2 (own := RX11) (by decide) rfl (Nat.le_of_ble_eq_true rfl) ?_
  intro p e s m args below meth c ls Q hQ C hr hini hl h
  have hl : lv_has ls 3 [(0, .ref u0), (1, .ref (G (20 + 2)))] := hl
  obtain ⟨hx, hb, hml, hown, hts, hE0, hlk⟩ := id C
  have o := Fr.rf [60, 77, 60032] τ f
  refine lv_iconst (v := 0) hx hb dX11_says_0 (by decide) ?_
  refine lv_istore_n (lv' := [(2, .int 0), (0, .ref u0), (1, .ref (G (20 + 2)))]) hx hb dX11_says_1 rfl hl (by decide) rfl (fun ls hl => ?_)
  refine lv_iload_n hx hb dX11_says_2 rfl (lv_at hl 0 rfl) ?_
  refine lv_aload_n hx hb dX11_says_3 rfl (lv_at hl 2 rfl) ?_
  have hrv := vk_recv hE0.2.2.2.2.2.2.2.2.2.1 (i := 2) (by decide) h.2.2.1
  refine k_i (r_VK C h hl (As := []) (rest := [.int 0]) (c_length l D G b0 f 2 (by decide)) hrv mk_J0_length_8abf5 w_1574 w_1252 w_1253 w_1254 ⟨(Nat.le_of_ble_eq_true rfl), (Nat.le_of_ble_eq_true rfl)⟩ rfl (Nat.le_of_ble_eq_true rfl) ⟨(Nat.le_of_ble_eq_true rfl), (Nat.le_of_ble_eq_true rfl)⟩ rfl dX11_says_4) h (fun r1 f2 H locs p3 h => ?_)
  obtain ⟨er1, rfl⟩ := p3
  obtain rfl : (1 : Int32) = r1 := by rw [er1]; decide
  refine lv_icmp_ge (tgt := 40) hx hb dX11_says_7 (by decide) (fun c4 => ?_) (fun c4 => ?_)
  · exact absurd c4 (by decide)
  · refine lv_aload_n hx hb dX11_says_10 rfl (lv_at hl 1 rfl) ?_
    refine t_getr (tq := 77) C h t hu0 (by decide) wf_60 rfl fl_X11_72 dX11_says_11 (fun q7 tq7 => ?_)
    refine lv_aload_n hx hb dX11_says_14 rfl (lv_at hl 1 rfl) ?_
    refine t_getfd C h t hu0 (by decide) wf_60 (v := .int sy) k_u0_31 fl_X11_417 dX11_says_15 ?_
    refine lv_aload_n hx hb dX11_says_18 rfl (lv_at hl 2 rfl) ?_
    refine lv_iload_n hx hb dX11_says_19 rfl (lv_at hl 0 rfl) ?_
    have hrv := vk_recv hE0.2.2.2.2.2.2.2.2.2.1 (i := 2) (by decide) h.2.2.1
    refine k_i (r_VK C h hl (As := [.int 0]) (rest := [.int sy, .ref q7]) (c_charAt l D G b0 f 2 (by decide) 0 (by decide) (by unfold vp_in; decide)) hrv mk_J0_charAt_5068e w_1575 w_473 w_474 w_475 ⟨(Nat.le_of_ble_eq_true rfl), (Nat.le_of_ble_eq_true rfl)⟩ rfl (Nat.le_of_ble_eq_true rfl) ⟨(Nat.le_of_ble_eq_true rfl), (Nat.le_of_ble_eq_true rfl)⟩ rfl dX11_says_20) h (fun r8 f9 H locs p10 h => ?_)
    obtain ⟨er8, rfl⟩ := p10
    obtain rfl : (101 : Int32) = r8 := by rw [er8]; decide
    refine t_iast C h t o tq7 (by decide) (by decide) wf_77 fw_77 (iv_in hsy (by decide)) ⟨by decide, by decide⟩ dX11_says_23 (fun f11 H locs h tf11 of11 hq => ?_)
    have k12 := atp.tg k_u0_31 hq hu0 (by decide)
    refine lv_aload_n hx hb dX11_says_24 rfl (lv_at hl 1 rfl) ?_
    refine lv_dup hx hb dX11_says_25 rfl ?_
    refine t_getfd C h tf11 hu0 (by decide) wf_60 (v := .int sy) k12 fl_X11_417 dX11_says_26 ?_
    refine lv_iconst (v := 1) hx hb dX11_says_29 (by decide) ?_
    refine i_addk hx hb dX11_says_30 hsy (k := 1) rfl (lo := 1) (hi := 80) (by decide) (fun z13 ez13 mz13 iz13 => ?_)
    refine t_put C h tf11 of11 hu0 (by decide) (by decide) (by decide) wf_60 fw_60 (k := 31) rfl flw_X11_417 (Or.inr ⟨_, _, _, rfl, rfl⟩) (v := .int z13) rfl rfl ⟨_, rfl, (iv_w iz13 (by decide))⟩ dX11_says_31 (fun f14 H locs h tf14 of14 hq ha_ hn_ hk_ => ?_)
    have k16 := ha_
    refine lv_iinc (v := 1) (lv' := [(2, .int 1), (0, .ref u0), (1, .ref (G (20 + 2)))]) hx hb dX11_says_34 hl (k := 0) rfl (by decide) (by decide) rfl (fun ls hl => ?_)
    refine lv_goto (tgt := 2) hx hb dX11_says_37 (by decide) ?_
    refine lv_iload_n hx hb dX11_says_2 rfl (lv_at hl 0 rfl) ?_
    refine lv_aload_n hx hb dX11_says_3 rfl (lv_at hl 2 rfl) ?_
    have hrv := vk_recv hE0.2.2.2.2.2.2.2.2.2.1 (i := 2) (by decide) h.2.2.1
    refine k_i (r_VK C h hl (As := []) (rest := [.int 1]) (c_length l D G b0 f14 2 (by decide)) hrv mk_J0_length_8abf5 w_1574 w_1252 w_1253 w_1254 ⟨(Nat.le_of_ble_eq_true rfl), (Nat.le_of_ble_eq_true rfl)⟩ rfl (Nat.le_of_ble_eq_true rfl) ⟨(Nat.le_of_ble_eq_true rfl), (Nat.le_of_ble_eq_true rfl)⟩ rfl dX11_says_4) h (fun r17 f18 H locs p19 h => ?_)
    obtain ⟨er17, rfl⟩ := p19
    obtain rfl : (1 : Int32) = r17 := by rw [er17]; decide
    refine lv_icmp_ge (tgt := 40) hx hb dX11_says_7 (by decide) (fun c20 => ?_) (fun c20 => ?_)
    · exact u_vret C h hr hQ (⟨tf14, of14, ⟨z13, k16, (iv_w iz13 (by decide)), (by omega)⟩⟩) (Nat.le_of_ble_eq_true rfl) (Nat.le_of_ble_eq_true rfl) dX11_says_40
    · exact absurd c20 (by decide)
abbrev rm_s_X11_saysX3 : Room := { frames := 4, cells := 0, slots := 0, locals := 85 }
set_option maxRecDepth 100000 in
set_option maxHeartbeats 4000000 in
theorem s_X11_saysX3 (l : Launch) (D : va_G) (G : Nat → Nat) (b0 : Nat) (τ : Nat → Nat) (f : hM) (t : TI G 9 τ f) (u0 : Nat) (hu0 : τ u0 = 60) (sy : Int32) (hsy : iv sy 0 78) (k_u0_31 : atp f u0 (fd 31 (.int sy))) : mV l yX11_says cX11_says 3 rm_s_X11_saysX3 D G b0 f [.ref u0, .ref (G (20 + 3))] (fun f1 => TI G 9 τ f1 ∧ Fr [60, 77, 60032] τ f f1 ∧ (∃ sy1 : Int32, atp f1 u0 (fd 31 (.int sy1)) ∧ iv sy1 0 80 ∧ sy1.toInt = sy.toInt + 2)) := by
  refine met2 (own := RX11) (by decide) rfl (Nat.le_of_ble_eq_true rfl) ?_
  intro p e s m args below meth c ls Q hQ C hr hini hl h
  have hl : lv_has ls 3 [(0, .ref u0), (1, .ref (G (20 + 3)))] := hl
  obtain ⟨hx, hb, hml, hown, hts, hE0, hlk⟩ := id C
  have o := Fr.rf [60, 77, 60032] τ f
  refine lv_iconst (v := 0) hx hb dX11_says_0 (by decide) ?_
  refine lv_istore_n (lv' := [(2, .int 0), (0, .ref u0), (1, .ref (G (20 + 3)))]) hx hb dX11_says_1 rfl hl (by decide) rfl (fun ls hl => ?_)
  refine lv_iload_n hx hb dX11_says_2 rfl (lv_at hl 0 rfl) ?_
  refine lv_aload_n hx hb dX11_says_3 rfl (lv_at hl 2 rfl) ?_
  have hrv := vk_recv hE0.2.2.2.2.2.2.2.2.2.1 (i := 3) (by decide) h.2.2.1
  refine k_i (r_VK C h hl (As := []) (rest := [.int 0]) (c_length l D G b0 f 3 (by decide)) hrv mk_J0_length_8abf5 w_1574 w_1252 w_1253 w_1254 ⟨(Nat.le_of_ble_eq_true rfl), (Nat.le_of_ble_eq_true rfl)⟩ rfl (Nat.le_of_ble_eq_true rfl) ⟨(Nat.le_of_ble_eq_true rfl), (Nat.le_of_ble_eq_true rfl)⟩ rfl dX11_says_4) h (fun r1 f2 H locs p3 h => ?_)
  obtain ⟨er1, rfl⟩ := p3
  obtain rfl : (2 : Int32) = r1 := by rw [er1]; decide
  refine lv_icmp_ge (tgt := 40) hx hb dX11_says_7 (by decide) (fun c4 => ?_) (fun c4 => ?_)
  · exact absurd c4 (by decide)
  · refine lv_aload_n hx hb dX11_says_10 rfl (lv_at hl 1 rfl) ?_
    refine t_getr (tq := 77) C h t hu0 (by decide) wf_60 rfl fl_X11_72 dX11_says_11 (fun q7 tq7 => ?_)
    refine lv_aload_n hx hb dX11_says_14 rfl (lv_at hl 1 rfl) ?_
    refine t_getfd C h t hu0 (by decide) wf_60 (v := .int sy) k_u0_31 fl_X11_417 dX11_says_15 ?_
    refine lv_aload_n hx hb dX11_says_18 rfl (lv_at hl 2 rfl) ?_
    refine lv_iload_n hx hb dX11_says_19 rfl (lv_at hl 0 rfl) ?_
    have hrv := vk_recv hE0.2.2.2.2.2.2.2.2.2.1 (i := 3) (by decide) h.2.2.1
    refine k_i (r_VK C h hl (As := [.int 0]) (rest := [.int sy, .ref q7]) (c_charAt l D G b0 f 3 (by decide) 0 (by decide) (by unfold vp_in; decide)) hrv mk_J0_charAt_5068e w_1575 w_473 w_474 w_475 ⟨(Nat.le_of_ble_eq_true rfl), (Nat.le_of_ble_eq_true rfl)⟩ rfl (Nat.le_of_ble_eq_true rfl) ⟨(Nat.le_of_ble_eq_true rfl), (Nat.le_of_ble_eq_true rfl)⟩ rfl dX11_says_20) h (fun r8 f9 H locs p10 h => ?_)
    obtain ⟨er8, rfl⟩ := p10
    obtain rfl : (115 : Int32) = r8 := by rw [er8]; decide
    refine t_iast C h t o tq7 (by decide) (by decide) wf_77 fw_77 (iv_in hsy (by decide)) ⟨by decide, by decide⟩ dX11_says_23 (fun f11 H locs h tf11 of11 hq => ?_)
    have k12 := atp.tg k_u0_31 hq hu0 (by decide)
    refine lv_aload_n hx hb dX11_says_24 rfl (lv_at hl 1 rfl) ?_
    refine lv_dup hx hb dX11_says_25 rfl ?_
    refine t_getfd C h tf11 hu0 (by decide) wf_60 (v := .int sy) k12 fl_X11_417 dX11_says_26 ?_
    refine lv_iconst (v := 1) hx hb dX11_says_29 (by decide) ?_
    refine i_addk hx hb dX11_says_30 hsy (k := 1) rfl (lo := 1) (hi := 79) (by decide) (fun z13 ez13 mz13 iz13 => ?_)
    refine t_put C h tf11 of11 hu0 (by decide) (by decide) (by decide) wf_60 fw_60 (k := 31) rfl flw_X11_417 (Or.inr ⟨_, _, _, rfl, rfl⟩) (v := .int z13) rfl rfl ⟨_, rfl, (iv_w iz13 (by decide))⟩ dX11_says_31 (fun f14 H locs h tf14 of14 hq ha_ hn_ hk_ => ?_)
    have k16 := ha_
    refine lv_iinc (v := 1) (lv' := [(2, .int 1), (0, .ref u0), (1, .ref (G (20 + 3)))]) hx hb dX11_says_34 hl (k := 0) rfl (by decide) (by decide) rfl (fun ls hl => ?_)
    refine lv_goto (tgt := 2) hx hb dX11_says_37 (by decide) ?_
    refine lv_iload_n hx hb dX11_says_2 rfl (lv_at hl 0 rfl) ?_
    refine lv_aload_n hx hb dX11_says_3 rfl (lv_at hl 2 rfl) ?_
    have hrv := vk_recv hE0.2.2.2.2.2.2.2.2.2.1 (i := 3) (by decide) h.2.2.1
    refine k_i (r_VK C h hl (As := []) (rest := [.int 1]) (c_length l D G b0 f14 3 (by decide)) hrv mk_J0_length_8abf5 w_1574 w_1252 w_1253 w_1254 ⟨(Nat.le_of_ble_eq_true rfl), (Nat.le_of_ble_eq_true rfl)⟩ rfl (Nat.le_of_ble_eq_true rfl) ⟨(Nat.le_of_ble_eq_true rfl), (Nat.le_of_ble_eq_true rfl)⟩ rfl dX11_says_4) h (fun r17 f18 H locs p19 h => ?_)
    obtain ⟨er17, rfl⟩ := p19
    obtain rfl : (2 : Int32) = r17 := by rw [er17]; decide
    refine lv_icmp_ge (tgt := 40) hx hb dX11_says_7 (by decide) (fun c20 => ?_) (fun c20 => ?_)
    · exact absurd c20 (by decide)
    · refine lv_aload_n hx hb dX11_says_10 rfl (lv_at hl 1 rfl) ?_
      refine t_getr (tq := 77) C h tf14 hu0 (by decide) wf_60 rfl fl_X11_72 dX11_says_11 (fun q23 tq23 => ?_)
      refine lv_aload_n hx hb dX11_says_14 rfl (lv_at hl 1 rfl) ?_
      refine t_getfd C h tf14 hu0 (by decide) wf_60 (v := .int z13) k16 fl_X11_417 dX11_says_15 ?_
      refine lv_aload_n hx hb dX11_says_18 rfl (lv_at hl 2 rfl) ?_
      refine lv_iload_n hx hb dX11_says_19 rfl (lv_at hl 0 rfl) ?_
      have hrv := vk_recv hE0.2.2.2.2.2.2.2.2.2.1 (i := 3) (by decide) h.2.2.1
      refine k_i (r_VK C h hl (As := [.int 1]) (rest := [.int z13, .ref q23]) (c_charAt l D G b0 f14 3 (by decide) 1 (by decide) (by unfold vp_in; decide)) hrv mk_J0_charAt_5068e w_1575 w_473 w_474 w_475 ⟨(Nat.le_of_ble_eq_true rfl), (Nat.le_of_ble_eq_true rfl)⟩ rfl (Nat.le_of_ble_eq_true rfl) ⟨(Nat.le_of_ble_eq_true rfl), (Nat.le_of_ble_eq_true rfl)⟩ rfl dX11_says_20) h (fun r24 f25 H locs p26 h => ?_)
      obtain ⟨er24, rfl⟩ := p26
      obtain rfl : (101 : Int32) = r24 := by rw [er24]; decide
      refine t_iast C h tf14 of14 tq23 (by decide) (by decide) wf_77 fw_77 (iv_in iz13 (by decide)) ⟨by decide, by decide⟩ dX11_says_23 (fun f27 H locs h tf27 of27 hq => ?_)
      have k28 := atp.tg k16 hq hu0 (by decide)
      refine lv_aload_n hx hb dX11_says_24 rfl (lv_at hl 1 rfl) ?_
      refine lv_dup hx hb dX11_says_25 rfl ?_
      refine t_getfd C h tf27 hu0 (by decide) wf_60 (v := .int z13) k28 fl_X11_417 dX11_says_26 ?_
      refine lv_iconst (v := 1) hx hb dX11_says_29 (by decide) ?_
      refine i_addk hx hb dX11_says_30 iz13 (k := 1) rfl (lo := 2) (hi := 80) (by decide) (fun z29 ez29 mz29 iz29 => ?_)
      refine t_put C h tf27 of27 hu0 (by decide) (by decide) (by decide) wf_60 fw_60 (k := 31) rfl flw_X11_417 (Or.inr ⟨_, _, _, rfl, rfl⟩) (v := .int z29) rfl rfl ⟨_, rfl, (iv_w iz29 (by decide))⟩ dX11_says_31 (fun f30 H locs h tf30 of30 hq ha_ hn_ hk_ => ?_)
      have k32 := ha_
      refine lv_iinc (v := 2) (lv' := [(2, .int 2), (0, .ref u0), (1, .ref (G (20 + 3)))]) hx hb dX11_says_34 hl (k := 0) rfl (by decide) (by decide) rfl (fun ls hl => ?_)
      refine lv_goto (tgt := 2) hx hb dX11_says_37 (by decide) ?_
      refine lv_iload_n hx hb dX11_says_2 rfl (lv_at hl 0 rfl) ?_
      refine lv_aload_n hx hb dX11_says_3 rfl (lv_at hl 2 rfl) ?_
      have hrv := vk_recv hE0.2.2.2.2.2.2.2.2.2.1 (i := 3) (by decide) h.2.2.1
      refine k_i (r_VK C h hl (As := []) (rest := [.int 2]) (c_length l D G b0 f30 3 (by decide)) hrv mk_J0_length_8abf5 w_1574 w_1252 w_1253 w_1254 ⟨(Nat.le_of_ble_eq_true rfl), (Nat.le_of_ble_eq_true rfl)⟩ rfl (Nat.le_of_ble_eq_true rfl) ⟨(Nat.le_of_ble_eq_true rfl), (Nat.le_of_ble_eq_true rfl)⟩ rfl dX11_says_4) h (fun r33 f34 H locs p35 h => ?_)
      obtain ⟨er33, rfl⟩ := p35
      obtain rfl : (2 : Int32) = r33 := by rw [er33]; decide
      refine lv_icmp_ge (tgt := 40) hx hb dX11_says_7 (by decide) (fun c36 => ?_) (fun c36 => ?_)
      · exact u_vret C h hr hQ (⟨tf30, of30, ⟨z29, k32, (iv_w iz29 (by decide)), (by omega)⟩⟩) (Nat.le_of_ble_eq_true rfl) (Nat.le_of_ble_eq_true rfl) dX11_says_40
      · exact absurd c36 (by decide)
abbrev rm_s_X11_saysX4 : Room := { frames := 4, cells := 0, slots := 0, locals := 85 }
set_option maxRecDepth 100000 in
set_option maxHeartbeats 4000000 in
theorem s_X11_saysX4 (l : Launch) (D : va_G) (G : Nat → Nat) (b0 : Nat) (τ : Nat → Nat) (f : hM) (t : TI G 9 τ f) (u0 : Nat) (hu0 : τ u0 = 60) (sy : Int32) (hsy : iv sy 0 79) (k_u0_31 : atp f u0 (fd 31 (.int sy))) : mV l yX11_says cX11_says 3 rm_s_X11_saysX4 D G b0 f [.ref u0, .ref (G (20 + 4))] (fun f1 => TI G 9 τ f1 ∧ Fr [60, 77, 60032] τ f f1 ∧ (∃ sy1 : Int32, atp f1 u0 (fd 31 (.int sy1)) ∧ iv sy1 0 80 ∧ sy1.toInt = sy.toInt + 1)) := by
  refine met2 (own := RX11) (by decide) rfl (Nat.le_of_ble_eq_true rfl) ?_
  intro p e s m args below meth c ls Q hQ C hr hini hl h
  have hl : lv_has ls 3 [(0, .ref u0), (1, .ref (G (20 + 4)))] := hl
  obtain ⟨hx, hb, hml, hown, hts, hE0, hlk⟩ := id C
  have o := Fr.rf [60, 77, 60032] τ f
  refine lv_iconst (v := 0) hx hb dX11_says_0 (by decide) ?_
  refine lv_istore_n (lv' := [(2, .int 0), (0, .ref u0), (1, .ref (G (20 + 4)))]) hx hb dX11_says_1 rfl hl (by decide) rfl (fun ls hl => ?_)
  refine lv_iload_n hx hb dX11_says_2 rfl (lv_at hl 0 rfl) ?_
  refine lv_aload_n hx hb dX11_says_3 rfl (lv_at hl 2 rfl) ?_
  have hrv := vk_recv hE0.2.2.2.2.2.2.2.2.2.1 (i := 4) (by decide) h.2.2.1
  refine k_i (r_VK C h hl (As := []) (rest := [.int 0]) (c_length l D G b0 f 4 (by decide)) hrv mk_J0_length_8abf5 w_1574 w_1252 w_1253 w_1254 ⟨(Nat.le_of_ble_eq_true rfl), (Nat.le_of_ble_eq_true rfl)⟩ rfl (Nat.le_of_ble_eq_true rfl) ⟨(Nat.le_of_ble_eq_true rfl), (Nat.le_of_ble_eq_true rfl)⟩ rfl dX11_says_4) h (fun r1 f2 H locs p3 h => ?_)
  obtain ⟨er1, rfl⟩ := p3
  obtain rfl : (1 : Int32) = r1 := by rw [er1]; decide
  refine lv_icmp_ge (tgt := 40) hx hb dX11_says_7 (by decide) (fun c4 => ?_) (fun c4 => ?_)
  · exact absurd c4 (by decide)
  · refine lv_aload_n hx hb dX11_says_10 rfl (lv_at hl 1 rfl) ?_
    refine t_getr (tq := 77) C h t hu0 (by decide) wf_60 rfl fl_X11_72 dX11_says_11 (fun q7 tq7 => ?_)
    refine lv_aload_n hx hb dX11_says_14 rfl (lv_at hl 1 rfl) ?_
    refine t_getfd C h t hu0 (by decide) wf_60 (v := .int sy) k_u0_31 fl_X11_417 dX11_says_15 ?_
    refine lv_aload_n hx hb dX11_says_18 rfl (lv_at hl 2 rfl) ?_
    refine lv_iload_n hx hb dX11_says_19 rfl (lv_at hl 0 rfl) ?_
    have hrv := vk_recv hE0.2.2.2.2.2.2.2.2.2.1 (i := 4) (by decide) h.2.2.1
    refine k_i (r_VK C h hl (As := [.int 0]) (rest := [.int sy, .ref q7]) (c_charAt l D G b0 f 4 (by decide) 0 (by decide) (by unfold vp_in; decide)) hrv mk_J0_charAt_5068e w_1575 w_473 w_474 w_475 ⟨(Nat.le_of_ble_eq_true rfl), (Nat.le_of_ble_eq_true rfl)⟩ rfl (Nat.le_of_ble_eq_true rfl) ⟨(Nat.le_of_ble_eq_true rfl), (Nat.le_of_ble_eq_true rfl)⟩ rfl dX11_says_20) h (fun r8 f9 H locs p10 h => ?_)
    obtain ⟨er8, rfl⟩ := p10
    obtain rfl : (115 : Int32) = r8 := by rw [er8]; decide
    refine t_iast C h t o tq7 (by decide) (by decide) wf_77 fw_77 (iv_in hsy (by decide)) ⟨by decide, by decide⟩ dX11_says_23 (fun f11 H locs h tf11 of11 hq => ?_)
    have k12 := atp.tg k_u0_31 hq hu0 (by decide)
    refine lv_aload_n hx hb dX11_says_24 rfl (lv_at hl 1 rfl) ?_
    refine lv_dup hx hb dX11_says_25 rfl ?_
    refine t_getfd C h tf11 hu0 (by decide) wf_60 (v := .int sy) k12 fl_X11_417 dX11_says_26 ?_
    refine lv_iconst (v := 1) hx hb dX11_says_29 (by decide) ?_
    refine i_addk hx hb dX11_says_30 hsy (k := 1) rfl (lo := 1) (hi := 80) (by decide) (fun z13 ez13 mz13 iz13 => ?_)
    refine t_put C h tf11 of11 hu0 (by decide) (by decide) (by decide) wf_60 fw_60 (k := 31) rfl flw_X11_417 (Or.inr ⟨_, _, _, rfl, rfl⟩) (v := .int z13) rfl rfl ⟨_, rfl, (iv_w iz13 (by decide))⟩ dX11_says_31 (fun f14 H locs h tf14 of14 hq ha_ hn_ hk_ => ?_)
    have k16 := ha_
    refine lv_iinc (v := 1) (lv' := [(2, .int 1), (0, .ref u0), (1, .ref (G (20 + 4)))]) hx hb dX11_says_34 hl (k := 0) rfl (by decide) (by decide) rfl (fun ls hl => ?_)
    refine lv_goto (tgt := 2) hx hb dX11_says_37 (by decide) ?_
    refine lv_iload_n hx hb dX11_says_2 rfl (lv_at hl 0 rfl) ?_
    refine lv_aload_n hx hb dX11_says_3 rfl (lv_at hl 2 rfl) ?_
    have hrv := vk_recv hE0.2.2.2.2.2.2.2.2.2.1 (i := 4) (by decide) h.2.2.1
    refine k_i (r_VK C h hl (As := []) (rest := [.int 1]) (c_length l D G b0 f14 4 (by decide)) hrv mk_J0_length_8abf5 w_1574 w_1252 w_1253 w_1254 ⟨(Nat.le_of_ble_eq_true rfl), (Nat.le_of_ble_eq_true rfl)⟩ rfl (Nat.le_of_ble_eq_true rfl) ⟨(Nat.le_of_ble_eq_true rfl), (Nat.le_of_ble_eq_true rfl)⟩ rfl dX11_says_4) h (fun r17 f18 H locs p19 h => ?_)
    obtain ⟨er17, rfl⟩ := p19
    obtain rfl : (1 : Int32) = r17 := by rw [er17]; decide
    refine lv_icmp_ge (tgt := 40) hx hb dX11_says_7 (by decide) (fun c20 => ?_) (fun c20 => ?_)
    · exact u_vret C h hr hQ (⟨tf14, of14, ⟨z13, k16, (iv_w iz13 (by decide)), (by omega)⟩⟩) (Nat.le_of_ble_eq_true rfl) (Nat.le_of_ble_eq_true rfl) dX11_says_40
    · exact absurd c20 (by decide)
abbrev rm_s_X11_saysX5 : Room := { frames := 4, cells := 0, slots := 0, locals := 85 }
set_option maxRecDepth 100000 in
set_option maxHeartbeats 4000000 in
theorem s_X11_saysX5 (l : Launch) (D : va_G) (G : Nat → Nat) (b0 : Nat) (τ : Nat → Nat) (f : hM) (t : TI G 9 τ f) (u0 : Nat) (hu0 : τ u0 = 60) (sy : Int32) (hsy : iv sy 0 78) (k_u0_31 : atp f u0 (fd 31 (.int sy))) : mV l yX11_says cX11_says 3 rm_s_X11_saysX5 D G b0 f [.ref u0, .ref (G (20 + 5))] (fun f1 => TI G 9 τ f1 ∧ Fr [60, 77, 60032] τ f f1 ∧ (∃ sy1 : Int32, atp f1 u0 (fd 31 (.int sy1)) ∧ iv sy1 0 80 ∧ sy1.toInt = sy.toInt + 2)) := by
  refine met2 (own := RX11) (by decide) rfl (Nat.le_of_ble_eq_true rfl) ?_
  intro p e s m args below meth c ls Q hQ C hr hini hl h
  have hl : lv_has ls 3 [(0, .ref u0), (1, .ref (G (20 + 5)))] := hl
  obtain ⟨hx, hb, hml, hown, hts, hE0, hlk⟩ := id C
  have o := Fr.rf [60, 77, 60032] τ f
  refine lv_iconst (v := 0) hx hb dX11_says_0 (by decide) ?_
  refine lv_istore_n (lv' := [(2, .int 0), (0, .ref u0), (1, .ref (G (20 + 5)))]) hx hb dX11_says_1 rfl hl (by decide) rfl (fun ls hl => ?_)
  refine lv_iload_n hx hb dX11_says_2 rfl (lv_at hl 0 rfl) ?_
  refine lv_aload_n hx hb dX11_says_3 rfl (lv_at hl 2 rfl) ?_
  have hrv := vk_recv hE0.2.2.2.2.2.2.2.2.2.1 (i := 5) (by decide) h.2.2.1
  refine k_i (r_VK C h hl (As := []) (rest := [.int 0]) (c_length l D G b0 f 5 (by decide)) hrv mk_J0_length_8abf5 w_1574 w_1252 w_1253 w_1254 ⟨(Nat.le_of_ble_eq_true rfl), (Nat.le_of_ble_eq_true rfl)⟩ rfl (Nat.le_of_ble_eq_true rfl) ⟨(Nat.le_of_ble_eq_true rfl), (Nat.le_of_ble_eq_true rfl)⟩ rfl dX11_says_4) h (fun r1 f2 H locs p3 h => ?_)
  obtain ⟨er1, rfl⟩ := p3
  obtain rfl : (2 : Int32) = r1 := by rw [er1]; decide
  refine lv_icmp_ge (tgt := 40) hx hb dX11_says_7 (by decide) (fun c4 => ?_) (fun c4 => ?_)
  · exact absurd c4 (by decide)
  · refine lv_aload_n hx hb dX11_says_10 rfl (lv_at hl 1 rfl) ?_
    refine t_getr (tq := 77) C h t hu0 (by decide) wf_60 rfl fl_X11_72 dX11_says_11 (fun q7 tq7 => ?_)
    refine lv_aload_n hx hb dX11_says_14 rfl (lv_at hl 1 rfl) ?_
    refine t_getfd C h t hu0 (by decide) wf_60 (v := .int sy) k_u0_31 fl_X11_417 dX11_says_15 ?_
    refine lv_aload_n hx hb dX11_says_18 rfl (lv_at hl 2 rfl) ?_
    refine lv_iload_n hx hb dX11_says_19 rfl (lv_at hl 0 rfl) ?_
    have hrv := vk_recv hE0.2.2.2.2.2.2.2.2.2.1 (i := 5) (by decide) h.2.2.1
    refine k_i (r_VK C h hl (As := [.int 0]) (rest := [.int sy, .ref q7]) (c_charAt l D G b0 f 5 (by decide) 0 (by decide) (by unfold vp_in; decide)) hrv mk_J0_charAt_5068e w_1575 w_473 w_474 w_475 ⟨(Nat.le_of_ble_eq_true rfl), (Nat.le_of_ble_eq_true rfl)⟩ rfl (Nat.le_of_ble_eq_true rfl) ⟨(Nat.le_of_ble_eq_true rfl), (Nat.le_of_ble_eq_true rfl)⟩ rfl dX11_says_20) h (fun r8 f9 H locs p10 h => ?_)
    obtain ⟨er8, rfl⟩ := p10
    obtain rfl : (115 : Int32) = r8 := by rw [er8]; decide
    refine t_iast C h t o tq7 (by decide) (by decide) wf_77 fw_77 (iv_in hsy (by decide)) ⟨by decide, by decide⟩ dX11_says_23 (fun f11 H locs h tf11 of11 hq => ?_)
    have k12 := atp.tg k_u0_31 hq hu0 (by decide)
    refine lv_aload_n hx hb dX11_says_24 rfl (lv_at hl 1 rfl) ?_
    refine lv_dup hx hb dX11_says_25 rfl ?_
    refine t_getfd C h tf11 hu0 (by decide) wf_60 (v := .int sy) k12 fl_X11_417 dX11_says_26 ?_
    refine lv_iconst (v := 1) hx hb dX11_says_29 (by decide) ?_
    refine i_addk hx hb dX11_says_30 hsy (k := 1) rfl (lo := 1) (hi := 79) (by decide) (fun z13 ez13 mz13 iz13 => ?_)
    refine t_put C h tf11 of11 hu0 (by decide) (by decide) (by decide) wf_60 fw_60 (k := 31) rfl flw_X11_417 (Or.inr ⟨_, _, _, rfl, rfl⟩) (v := .int z13) rfl rfl ⟨_, rfl, (iv_w iz13 (by decide))⟩ dX11_says_31 (fun f14 H locs h tf14 of14 hq ha_ hn_ hk_ => ?_)
    have k16 := ha_
    refine lv_iinc (v := 1) (lv' := [(2, .int 1), (0, .ref u0), (1, .ref (G (20 + 5)))]) hx hb dX11_says_34 hl (k := 0) rfl (by decide) (by decide) rfl (fun ls hl => ?_)
    refine lv_goto (tgt := 2) hx hb dX11_says_37 (by decide) ?_
    refine lv_iload_n hx hb dX11_says_2 rfl (lv_at hl 0 rfl) ?_
    refine lv_aload_n hx hb dX11_says_3 rfl (lv_at hl 2 rfl) ?_
    have hrv := vk_recv hE0.2.2.2.2.2.2.2.2.2.1 (i := 5) (by decide) h.2.2.1
    refine k_i (r_VK C h hl (As := []) (rest := [.int 1]) (c_length l D G b0 f14 5 (by decide)) hrv mk_J0_length_8abf5 w_1574 w_1252 w_1253 w_1254 ⟨(Nat.le_of_ble_eq_true rfl), (Nat.le_of_ble_eq_true rfl)⟩ rfl (Nat.le_of_ble_eq_true rfl) ⟨(Nat.le_of_ble_eq_true rfl), (Nat.le_of_ble_eq_true rfl)⟩ rfl dX11_says_4) h (fun r17 f18 H locs p19 h => ?_)
    obtain ⟨er17, rfl⟩ := p19
    obtain rfl : (2 : Int32) = r17 := by rw [er17]; decide
    refine lv_icmp_ge (tgt := 40) hx hb dX11_says_7 (by decide) (fun c20 => ?_) (fun c20 => ?_)
    · exact absurd c20 (by decide)
    · refine lv_aload_n hx hb dX11_says_10 rfl (lv_at hl 1 rfl) ?_
      refine t_getr (tq := 77) C h tf14 hu0 (by decide) wf_60 rfl fl_X11_72 dX11_says_11 (fun q23 tq23 => ?_)
      refine lv_aload_n hx hb dX11_says_14 rfl (lv_at hl 1 rfl) ?_
      refine t_getfd C h tf14 hu0 (by decide) wf_60 (v := .int z13) k16 fl_X11_417 dX11_says_15 ?_
      refine lv_aload_n hx hb dX11_says_18 rfl (lv_at hl 2 rfl) ?_
      refine lv_iload_n hx hb dX11_says_19 rfl (lv_at hl 0 rfl) ?_
      have hrv := vk_recv hE0.2.2.2.2.2.2.2.2.2.1 (i := 5) (by decide) h.2.2.1
      refine k_i (r_VK C h hl (As := [.int 1]) (rest := [.int z13, .ref q23]) (c_charAt l D G b0 f14 5 (by decide) 1 (by decide) (by unfold vp_in; decide)) hrv mk_J0_charAt_5068e w_1575 w_473 w_474 w_475 ⟨(Nat.le_of_ble_eq_true rfl), (Nat.le_of_ble_eq_true rfl)⟩ rfl (Nat.le_of_ble_eq_true rfl) ⟨(Nat.le_of_ble_eq_true rfl), (Nat.le_of_ble_eq_true rfl)⟩ rfl dX11_says_20) h (fun r24 f25 H locs p26 h => ?_)
      obtain ⟨er24, rfl⟩ := p26
      obtain rfl : (119 : Int32) = r24 := by rw [er24]; decide
      refine t_iast C h tf14 of14 tq23 (by decide) (by decide) wf_77 fw_77 (iv_in iz13 (by decide)) ⟨by decide, by decide⟩ dX11_says_23 (fun f27 H locs h tf27 of27 hq => ?_)
      have k28 := atp.tg k16 hq hu0 (by decide)
      refine lv_aload_n hx hb dX11_says_24 rfl (lv_at hl 1 rfl) ?_
      refine lv_dup hx hb dX11_says_25 rfl ?_
      refine t_getfd C h tf27 hu0 (by decide) wf_60 (v := .int z13) k28 fl_X11_417 dX11_says_26 ?_
      refine lv_iconst (v := 1) hx hb dX11_says_29 (by decide) ?_
      refine i_addk hx hb dX11_says_30 iz13 (k := 1) rfl (lo := 2) (hi := 80) (by decide) (fun z29 ez29 mz29 iz29 => ?_)
      refine t_put C h tf27 of27 hu0 (by decide) (by decide) (by decide) wf_60 fw_60 (k := 31) rfl flw_X11_417 (Or.inr ⟨_, _, _, rfl, rfl⟩) (v := .int z29) rfl rfl ⟨_, rfl, (iv_w iz29 (by decide))⟩ dX11_says_31 (fun f30 H locs h tf30 of30 hq ha_ hn_ hk_ => ?_)
      have k32 := ha_
      refine lv_iinc (v := 2) (lv' := [(2, .int 2), (0, .ref u0), (1, .ref (G (20 + 5)))]) hx hb dX11_says_34 hl (k := 0) rfl (by decide) (by decide) rfl (fun ls hl => ?_)
      refine lv_goto (tgt := 2) hx hb dX11_says_37 (by decide) ?_
      refine lv_iload_n hx hb dX11_says_2 rfl (lv_at hl 0 rfl) ?_
      refine lv_aload_n hx hb dX11_says_3 rfl (lv_at hl 2 rfl) ?_
      have hrv := vk_recv hE0.2.2.2.2.2.2.2.2.2.1 (i := 5) (by decide) h.2.2.1
      refine k_i (r_VK C h hl (As := []) (rest := [.int 2]) (c_length l D G b0 f30 5 (by decide)) hrv mk_J0_length_8abf5 w_1574 w_1252 w_1253 w_1254 ⟨(Nat.le_of_ble_eq_true rfl), (Nat.le_of_ble_eq_true rfl)⟩ rfl (Nat.le_of_ble_eq_true rfl) ⟨(Nat.le_of_ble_eq_true rfl), (Nat.le_of_ble_eq_true rfl)⟩ rfl dX11_says_4) h (fun r33 f34 H locs p35 h => ?_)
      obtain ⟨er33, rfl⟩ := p35
      obtain rfl : (2 : Int32) = r33 := by rw [er33]; decide
      refine lv_icmp_ge (tgt := 40) hx hb dX11_says_7 (by decide) (fun c36 => ?_) (fun c36 => ?_)
      · exact u_vret C h hr hQ (⟨tf30, of30, ⟨z29, k32, (iv_w iz29 (by decide)), (by omega)⟩⟩) (Nat.le_of_ble_eq_true rfl) (Nat.le_of_ble_eq_true rfl) dX11_says_40
      · exact absurd c36 (by decide)
abbrev rm_s_X11_saysX6 : Room := { frames := 4, cells := 0, slots := 0, locals := 85 }
set_option maxRecDepth 100000 in
set_option maxHeartbeats 4000000 in
theorem s_X11_saysX6 (l : Launch) (D : va_G) (G : Nat → Nat) (b0 : Nat) (τ : Nat → Nat) (f : hM) (t : TI G 9 τ f) (u0 : Nat) (hu0 : τ u0 = 60) (sy : Int32) (hsy : iv sy 0 79) (k_u0_31 : atp f u0 (fd 31 (.int sy))) : mV l yX11_says cX11_says 3 rm_s_X11_saysX6 D G b0 f [.ref u0, .ref (G (20 + 6))] (fun f1 => TI G 9 τ f1 ∧ Fr [60, 77, 60032] τ f f1 ∧ (∃ sy1 : Int32, atp f1 u0 (fd 31 (.int sy1)) ∧ iv sy1 0 80 ∧ sy1.toInt = sy.toInt + 1)) := by
  refine met2 (own := RX11) (by decide) rfl (Nat.le_of_ble_eq_true rfl) ?_
  intro p e s m args below meth c ls Q hQ C hr hini hl h
  have hl : lv_has ls 3 [(0, .ref u0), (1, .ref (G (20 + 6)))] := hl
  obtain ⟨hx, hb, hml, hown, hts, hE0, hlk⟩ := id C
  have o := Fr.rf [60, 77, 60032] τ f
  refine lv_iconst (v := 0) hx hb dX11_says_0 (by decide) ?_
  refine lv_istore_n (lv' := [(2, .int 0), (0, .ref u0), (1, .ref (G (20 + 6)))]) hx hb dX11_says_1 rfl hl (by decide) rfl (fun ls hl => ?_)
  refine lv_iload_n hx hb dX11_says_2 rfl (lv_at hl 0 rfl) ?_
  refine lv_aload_n hx hb dX11_says_3 rfl (lv_at hl 2 rfl) ?_
  have hrv := vk_recv hE0.2.2.2.2.2.2.2.2.2.1 (i := 6) (by decide) h.2.2.1
  refine k_i (r_VK C h hl (As := []) (rest := [.int 0]) (c_length l D G b0 f 6 (by decide)) hrv mk_J0_length_8abf5 w_1574 w_1252 w_1253 w_1254 ⟨(Nat.le_of_ble_eq_true rfl), (Nat.le_of_ble_eq_true rfl)⟩ rfl (Nat.le_of_ble_eq_true rfl) ⟨(Nat.le_of_ble_eq_true rfl), (Nat.le_of_ble_eq_true rfl)⟩ rfl dX11_says_4) h (fun r1 f2 H locs p3 h => ?_)
  obtain ⟨er1, rfl⟩ := p3
  obtain rfl : (1 : Int32) = r1 := by rw [er1]; decide
  refine lv_icmp_ge (tgt := 40) hx hb dX11_says_7 (by decide) (fun c4 => ?_) (fun c4 => ?_)
  · exact absurd c4 (by decide)
  · refine lv_aload_n hx hb dX11_says_10 rfl (lv_at hl 1 rfl) ?_
    refine t_getr (tq := 77) C h t hu0 (by decide) wf_60 rfl fl_X11_72 dX11_says_11 (fun q7 tq7 => ?_)
    refine lv_aload_n hx hb dX11_says_14 rfl (lv_at hl 1 rfl) ?_
    refine t_getfd C h t hu0 (by decide) wf_60 (v := .int sy) k_u0_31 fl_X11_417 dX11_says_15 ?_
    refine lv_aload_n hx hb dX11_says_18 rfl (lv_at hl 2 rfl) ?_
    refine lv_iload_n hx hb dX11_says_19 rfl (lv_at hl 0 rfl) ?_
    have hrv := vk_recv hE0.2.2.2.2.2.2.2.2.2.1 (i := 6) (by decide) h.2.2.1
    refine k_i (r_VK C h hl (As := [.int 0]) (rest := [.int sy, .ref q7]) (c_charAt l D G b0 f 6 (by decide) 0 (by decide) (by unfold vp_in; decide)) hrv mk_J0_charAt_5068e w_1575 w_473 w_474 w_475 ⟨(Nat.le_of_ble_eq_true rfl), (Nat.le_of_ble_eq_true rfl)⟩ rfl (Nat.le_of_ble_eq_true rfl) ⟨(Nat.le_of_ble_eq_true rfl), (Nat.le_of_ble_eq_true rfl)⟩ rfl dX11_says_20) h (fun r8 f9 H locs p10 h => ?_)
    obtain ⟨er8, rfl⟩ := p10
    obtain rfl : (119 : Int32) = r8 := by rw [er8]; decide
    refine t_iast C h t o tq7 (by decide) (by decide) wf_77 fw_77 (iv_in hsy (by decide)) ⟨by decide, by decide⟩ dX11_says_23 (fun f11 H locs h tf11 of11 hq => ?_)
    have k12 := atp.tg k_u0_31 hq hu0 (by decide)
    refine lv_aload_n hx hb dX11_says_24 rfl (lv_at hl 1 rfl) ?_
    refine lv_dup hx hb dX11_says_25 rfl ?_
    refine t_getfd C h tf11 hu0 (by decide) wf_60 (v := .int sy) k12 fl_X11_417 dX11_says_26 ?_
    refine lv_iconst (v := 1) hx hb dX11_says_29 (by decide) ?_
    refine i_addk hx hb dX11_says_30 hsy (k := 1) rfl (lo := 1) (hi := 80) (by decide) (fun z13 ez13 mz13 iz13 => ?_)
    refine t_put C h tf11 of11 hu0 (by decide) (by decide) (by decide) wf_60 fw_60 (k := 31) rfl flw_X11_417 (Or.inr ⟨_, _, _, rfl, rfl⟩) (v := .int z13) rfl rfl ⟨_, rfl, (iv_w iz13 (by decide))⟩ dX11_says_31 (fun f14 H locs h tf14 of14 hq ha_ hn_ hk_ => ?_)
    have k16 := ha_
    refine lv_iinc (v := 1) (lv' := [(2, .int 1), (0, .ref u0), (1, .ref (G (20 + 6)))]) hx hb dX11_says_34 hl (k := 0) rfl (by decide) (by decide) rfl (fun ls hl => ?_)
    refine lv_goto (tgt := 2) hx hb dX11_says_37 (by decide) ?_
    refine lv_iload_n hx hb dX11_says_2 rfl (lv_at hl 0 rfl) ?_
    refine lv_aload_n hx hb dX11_says_3 rfl (lv_at hl 2 rfl) ?_
    have hrv := vk_recv hE0.2.2.2.2.2.2.2.2.2.1 (i := 6) (by decide) h.2.2.1
    refine k_i (r_VK C h hl (As := []) (rest := [.int 1]) (c_length l D G b0 f14 6 (by decide)) hrv mk_J0_length_8abf5 w_1574 w_1252 w_1253 w_1254 ⟨(Nat.le_of_ble_eq_true rfl), (Nat.le_of_ble_eq_true rfl)⟩ rfl (Nat.le_of_ble_eq_true rfl) ⟨(Nat.le_of_ble_eq_true rfl), (Nat.le_of_ble_eq_true rfl)⟩ rfl dX11_says_4) h (fun r17 f18 H locs p19 h => ?_)
    obtain ⟨er17, rfl⟩ := p19
    obtain rfl : (1 : Int32) = r17 := by rw [er17]; decide
    refine lv_icmp_ge (tgt := 40) hx hb dX11_says_7 (by decide) (fun c20 => ?_) (fun c20 => ?_)
    · exact u_vret C h hr hQ (⟨tf14, of14, ⟨z13, k16, (iv_w iz13 (by decide)), (by omega)⟩⟩) (Nat.le_of_ble_eq_true rfl) (Nat.le_of_ble_eq_true rfl) dX11_says_40
    · exact absurd c20 (by decide)
abbrev rm_s_X11_saysX7 : Room := { frames := 4, cells := 0, slots := 0, locals := 85 }
set_option maxRecDepth 100000 in
set_option maxHeartbeats 4000000 in
theorem s_X11_saysX7 (l : Launch) (D : va_G) (G : Nat → Nat) (b0 : Nat) (τ : Nat → Nat) (f : hM) (t : TI G 9 τ f) (u0 : Nat) (hu0 : τ u0 = 60) (sy : Int32) (hsy : iv sy 0 78) (k_u0_31 : atp f u0 (fd 31 (.int sy))) : mV l yX11_says cX11_says 3 rm_s_X11_saysX7 D G b0 f [.ref u0, .ref (G (20 + 7))] (fun f1 => TI G 9 τ f1 ∧ Fr [60, 77, 60032] τ f f1 ∧ (∃ sy1 : Int32, atp f1 u0 (fd 31 (.int sy1)) ∧ iv sy1 0 80 ∧ sy1.toInt = sy.toInt + 2)) := by
  refine met2 (own := RX11) (by decide) rfl (Nat.le_of_ble_eq_true rfl) ?_
  intro p e s m args below meth c ls Q hQ C hr hini hl h
  have hl : lv_has ls 3 [(0, .ref u0), (1, .ref (G (20 + 7)))] := hl
  obtain ⟨hx, hb, hml, hown, hts, hE0, hlk⟩ := id C
  have o := Fr.rf [60, 77, 60032] τ f
  refine lv_iconst (v := 0) hx hb dX11_says_0 (by decide) ?_
  refine lv_istore_n (lv' := [(2, .int 0), (0, .ref u0), (1, .ref (G (20 + 7)))]) hx hb dX11_says_1 rfl hl (by decide) rfl (fun ls hl => ?_)
  refine lv_iload_n hx hb dX11_says_2 rfl (lv_at hl 0 rfl) ?_
  refine lv_aload_n hx hb dX11_says_3 rfl (lv_at hl 2 rfl) ?_
  have hrv := vk_recv hE0.2.2.2.2.2.2.2.2.2.1 (i := 7) (by decide) h.2.2.1
  refine k_i (r_VK C h hl (As := []) (rest := [.int 0]) (c_length l D G b0 f 7 (by decide)) hrv mk_J0_length_8abf5 w_1574 w_1252 w_1253 w_1254 ⟨(Nat.le_of_ble_eq_true rfl), (Nat.le_of_ble_eq_true rfl)⟩ rfl (Nat.le_of_ble_eq_true rfl) ⟨(Nat.le_of_ble_eq_true rfl), (Nat.le_of_ble_eq_true rfl)⟩ rfl dX11_says_4) h (fun r1 f2 H locs p3 h => ?_)
  obtain ⟨er1, rfl⟩ := p3
  obtain rfl : (2 : Int32) = r1 := by rw [er1]; decide
  refine lv_icmp_ge (tgt := 40) hx hb dX11_says_7 (by decide) (fun c4 => ?_) (fun c4 => ?_)
  · exact absurd c4 (by decide)
  · refine lv_aload_n hx hb dX11_says_10 rfl (lv_at hl 1 rfl) ?_
    refine t_getr (tq := 77) C h t hu0 (by decide) wf_60 rfl fl_X11_72 dX11_says_11 (fun q7 tq7 => ?_)
    refine lv_aload_n hx hb dX11_says_14 rfl (lv_at hl 1 rfl) ?_
    refine t_getfd C h t hu0 (by decide) wf_60 (v := .int sy) k_u0_31 fl_X11_417 dX11_says_15 ?_
    refine lv_aload_n hx hb dX11_says_18 rfl (lv_at hl 2 rfl) ?_
    refine lv_iload_n hx hb dX11_says_19 rfl (lv_at hl 0 rfl) ?_
    have hrv := vk_recv hE0.2.2.2.2.2.2.2.2.2.1 (i := 7) (by decide) h.2.2.1
    refine k_i (r_VK C h hl (As := [.int 0]) (rest := [.int sy, .ref q7]) (c_charAt l D G b0 f 7 (by decide) 0 (by decide) (by unfold vp_in; decide)) hrv mk_J0_charAt_5068e w_1575 w_473 w_474 w_475 ⟨(Nat.le_of_ble_eq_true rfl), (Nat.le_of_ble_eq_true rfl)⟩ rfl (Nat.le_of_ble_eq_true rfl) ⟨(Nat.le_of_ble_eq_true rfl), (Nat.le_of_ble_eq_true rfl)⟩ rfl dX11_says_20) h (fun r8 f9 H locs p10 h => ?_)
    obtain ⟨er8, rfl⟩ := p10
    obtain rfl : (110 : Int32) = r8 := by rw [er8]; decide
    refine t_iast C h t o tq7 (by decide) (by decide) wf_77 fw_77 (iv_in hsy (by decide)) ⟨by decide, by decide⟩ dX11_says_23 (fun f11 H locs h tf11 of11 hq => ?_)
    have k12 := atp.tg k_u0_31 hq hu0 (by decide)
    refine lv_aload_n hx hb dX11_says_24 rfl (lv_at hl 1 rfl) ?_
    refine lv_dup hx hb dX11_says_25 rfl ?_
    refine t_getfd C h tf11 hu0 (by decide) wf_60 (v := .int sy) k12 fl_X11_417 dX11_says_26 ?_
    refine lv_iconst (v := 1) hx hb dX11_says_29 (by decide) ?_
    refine i_addk hx hb dX11_says_30 hsy (k := 1) rfl (lo := 1) (hi := 79) (by decide) (fun z13 ez13 mz13 iz13 => ?_)
    refine t_put C h tf11 of11 hu0 (by decide) (by decide) (by decide) wf_60 fw_60 (k := 31) rfl flw_X11_417 (Or.inr ⟨_, _, _, rfl, rfl⟩) (v := .int z13) rfl rfl ⟨_, rfl, (iv_w iz13 (by decide))⟩ dX11_says_31 (fun f14 H locs h tf14 of14 hq ha_ hn_ hk_ => ?_)
    have k16 := ha_
    refine lv_iinc (v := 1) (lv' := [(2, .int 1), (0, .ref u0), (1, .ref (G (20 + 7)))]) hx hb dX11_says_34 hl (k := 0) rfl (by decide) (by decide) rfl (fun ls hl => ?_)
    refine lv_goto (tgt := 2) hx hb dX11_says_37 (by decide) ?_
    refine lv_iload_n hx hb dX11_says_2 rfl (lv_at hl 0 rfl) ?_
    refine lv_aload_n hx hb dX11_says_3 rfl (lv_at hl 2 rfl) ?_
    have hrv := vk_recv hE0.2.2.2.2.2.2.2.2.2.1 (i := 7) (by decide) h.2.2.1
    refine k_i (r_VK C h hl (As := []) (rest := [.int 1]) (c_length l D G b0 f14 7 (by decide)) hrv mk_J0_length_8abf5 w_1574 w_1252 w_1253 w_1254 ⟨(Nat.le_of_ble_eq_true rfl), (Nat.le_of_ble_eq_true rfl)⟩ rfl (Nat.le_of_ble_eq_true rfl) ⟨(Nat.le_of_ble_eq_true rfl), (Nat.le_of_ble_eq_true rfl)⟩ rfl dX11_says_4) h (fun r17 f18 H locs p19 h => ?_)
    obtain ⟨er17, rfl⟩ := p19
    obtain rfl : (2 : Int32) = r17 := by rw [er17]; decide
    refine lv_icmp_ge (tgt := 40) hx hb dX11_says_7 (by decide) (fun c20 => ?_) (fun c20 => ?_)
    · exact absurd c20 (by decide)
    · refine lv_aload_n hx hb dX11_says_10 rfl (lv_at hl 1 rfl) ?_
      refine t_getr (tq := 77) C h tf14 hu0 (by decide) wf_60 rfl fl_X11_72 dX11_says_11 (fun q23 tq23 => ?_)
      refine lv_aload_n hx hb dX11_says_14 rfl (lv_at hl 1 rfl) ?_
      refine t_getfd C h tf14 hu0 (by decide) wf_60 (v := .int z13) k16 fl_X11_417 dX11_says_15 ?_
      refine lv_aload_n hx hb dX11_says_18 rfl (lv_at hl 2 rfl) ?_
      refine lv_iload_n hx hb dX11_says_19 rfl (lv_at hl 0 rfl) ?_
      have hrv := vk_recv hE0.2.2.2.2.2.2.2.2.2.1 (i := 7) (by decide) h.2.2.1
      refine k_i (r_VK C h hl (As := [.int 1]) (rest := [.int z13, .ref q23]) (c_charAt l D G b0 f14 7 (by decide) 1 (by decide) (by unfold vp_in; decide)) hrv mk_J0_charAt_5068e w_1575 w_473 w_474 w_475 ⟨(Nat.le_of_ble_eq_true rfl), (Nat.le_of_ble_eq_true rfl)⟩ rfl (Nat.le_of_ble_eq_true rfl) ⟨(Nat.le_of_ble_eq_true rfl), (Nat.le_of_ble_eq_true rfl)⟩ rfl dX11_says_20) h (fun r24 f25 H locs p26 h => ?_)
      obtain ⟨er24, rfl⟩ := p26
      obtain rfl : (119 : Int32) = r24 := by rw [er24]; decide
      refine t_iast C h tf14 of14 tq23 (by decide) (by decide) wf_77 fw_77 (iv_in iz13 (by decide)) ⟨by decide, by decide⟩ dX11_says_23 (fun f27 H locs h tf27 of27 hq => ?_)
      have k28 := atp.tg k16 hq hu0 (by decide)
      refine lv_aload_n hx hb dX11_says_24 rfl (lv_at hl 1 rfl) ?_
      refine lv_dup hx hb dX11_says_25 rfl ?_
      refine t_getfd C h tf27 hu0 (by decide) wf_60 (v := .int z13) k28 fl_X11_417 dX11_says_26 ?_
      refine lv_iconst (v := 1) hx hb dX11_says_29 (by decide) ?_
      refine i_addk hx hb dX11_says_30 iz13 (k := 1) rfl (lo := 2) (hi := 80) (by decide) (fun z29 ez29 mz29 iz29 => ?_)
      refine t_put C h tf27 of27 hu0 (by decide) (by decide) (by decide) wf_60 fw_60 (k := 31) rfl flw_X11_417 (Or.inr ⟨_, _, _, rfl, rfl⟩) (v := .int z29) rfl rfl ⟨_, rfl, (iv_w iz29 (by decide))⟩ dX11_says_31 (fun f30 H locs h tf30 of30 hq ha_ hn_ hk_ => ?_)
      have k32 := ha_
      refine lv_iinc (v := 2) (lv' := [(2, .int 2), (0, .ref u0), (1, .ref (G (20 + 7)))]) hx hb dX11_says_34 hl (k := 0) rfl (by decide) (by decide) rfl (fun ls hl => ?_)
      refine lv_goto (tgt := 2) hx hb dX11_says_37 (by decide) ?_
      refine lv_iload_n hx hb dX11_says_2 rfl (lv_at hl 0 rfl) ?_
      refine lv_aload_n hx hb dX11_says_3 rfl (lv_at hl 2 rfl) ?_
      have hrv := vk_recv hE0.2.2.2.2.2.2.2.2.2.1 (i := 7) (by decide) h.2.2.1
      refine k_i (r_VK C h hl (As := []) (rest := [.int 2]) (c_length l D G b0 f30 7 (by decide)) hrv mk_J0_length_8abf5 w_1574 w_1252 w_1253 w_1254 ⟨(Nat.le_of_ble_eq_true rfl), (Nat.le_of_ble_eq_true rfl)⟩ rfl (Nat.le_of_ble_eq_true rfl) ⟨(Nat.le_of_ble_eq_true rfl), (Nat.le_of_ble_eq_true rfl)⟩ rfl dX11_says_4) h (fun r33 f34 H locs p35 h => ?_)
      obtain ⟨er33, rfl⟩ := p35
      obtain rfl : (2 : Int32) = r33 := by rw [er33]; decide
      refine lv_icmp_ge (tgt := 40) hx hb dX11_says_7 (by decide) (fun c36 => ?_) (fun c36 => ?_)
      · exact u_vret C h hr hQ (⟨tf30, of30, ⟨z29, k32, (iv_w iz29 (by decide)), (by omega)⟩⟩) (Nat.le_of_ble_eq_true rfl) (Nat.le_of_ble_eq_true rfl) dX11_says_40
      · exact absurd c36 (by decide)
abbrev rm_s_X11_saysX9 : Room := { frames := 4, cells := 0, slots := 0, locals := 85 }
set_option maxRecDepth 100000 in
set_option maxHeartbeats 4000000 in
theorem s_X11_saysX9 (l : Launch) (D : va_G) (G : Nat → Nat) (b0 : Nat) (τ : Nat → Nat) (f : hM) (t : TI G 9 τ f) (u0 : Nat) (hu0 : τ u0 = 60) (sy : Int32) (hsy : iv sy 0 79) (k_u0_31 : atp f u0 (fd 31 (.int sy))) : mV l yX11_says cX11_says 3 rm_s_X11_saysX9 D G b0 f [.ref u0, .ref (G (20 + 9))] (fun f1 => TI G 9 τ f1 ∧ Fr [60, 77, 60032] τ f f1 ∧ (∃ sy1 : Int32, atp f1 u0 (fd 31 (.int sy1)) ∧ iv sy1 0 80 ∧ sy1.toInt = sy.toInt + 1)) := by
  refine met2 (own := RX11) (by decide) rfl (Nat.le_of_ble_eq_true rfl) ?_
  intro p e s m args below meth c ls Q hQ C hr hini hl h
  have hl : lv_has ls 3 [(0, .ref u0), (1, .ref (G (20 + 9)))] := hl
  obtain ⟨hx, hb, hml, hown, hts, hE0, hlk⟩ := id C
  have o := Fr.rf [60, 77, 60032] τ f
  refine lv_iconst (v := 0) hx hb dX11_says_0 (by decide) ?_
  refine lv_istore_n (lv' := [(2, .int 0), (0, .ref u0), (1, .ref (G (20 + 9)))]) hx hb dX11_says_1 rfl hl (by decide) rfl (fun ls hl => ?_)
  refine lv_iload_n hx hb dX11_says_2 rfl (lv_at hl 0 rfl) ?_
  refine lv_aload_n hx hb dX11_says_3 rfl (lv_at hl 2 rfl) ?_
  have hrv := vk_recv hE0.2.2.2.2.2.2.2.2.2.1 (i := 9) (by decide) h.2.2.1
  refine k_i (r_VK C h hl (As := []) (rest := [.int 0]) (c_length l D G b0 f 9 (by decide)) hrv mk_J0_length_8abf5 w_1574 w_1252 w_1253 w_1254 ⟨(Nat.le_of_ble_eq_true rfl), (Nat.le_of_ble_eq_true rfl)⟩ rfl (Nat.le_of_ble_eq_true rfl) ⟨(Nat.le_of_ble_eq_true rfl), (Nat.le_of_ble_eq_true rfl)⟩ rfl dX11_says_4) h (fun r1 f2 H locs p3 h => ?_)
  obtain ⟨er1, rfl⟩ := p3
  obtain rfl : (1 : Int32) = r1 := by rw [er1]; decide
  refine lv_icmp_ge (tgt := 40) hx hb dX11_says_7 (by decide) (fun c4 => ?_) (fun c4 => ?_)
  · exact absurd c4 (by decide)
  · refine lv_aload_n hx hb dX11_says_10 rfl (lv_at hl 1 rfl) ?_
    refine t_getr (tq := 77) C h t hu0 (by decide) wf_60 rfl fl_X11_72 dX11_says_11 (fun q7 tq7 => ?_)
    refine lv_aload_n hx hb dX11_says_14 rfl (lv_at hl 1 rfl) ?_
    refine t_getfd C h t hu0 (by decide) wf_60 (v := .int sy) k_u0_31 fl_X11_417 dX11_says_15 ?_
    refine lv_aload_n hx hb dX11_says_18 rfl (lv_at hl 2 rfl) ?_
    refine lv_iload_n hx hb dX11_says_19 rfl (lv_at hl 0 rfl) ?_
    have hrv := vk_recv hE0.2.2.2.2.2.2.2.2.2.1 (i := 9) (by decide) h.2.2.1
    refine k_i (r_VK C h hl (As := [.int 0]) (rest := [.int sy, .ref q7]) (c_charAt l D G b0 f 9 (by decide) 0 (by decide) (by unfold vp_in; decide)) hrv mk_J0_charAt_5068e w_1575 w_473 w_474 w_475 ⟨(Nat.le_of_ble_eq_true rfl), (Nat.le_of_ble_eq_true rfl)⟩ rfl (Nat.le_of_ble_eq_true rfl) ⟨(Nat.le_of_ble_eq_true rfl), (Nat.le_of_ble_eq_true rfl)⟩ rfl dX11_says_20) h (fun r8 f9 H locs p10 h => ?_)
    obtain ⟨er8, rfl⟩ := p10
    obtain rfl : (32 : Int32) = r8 := by rw [er8]; decide
    refine t_iast C h t o tq7 (by decide) (by decide) wf_77 fw_77 (iv_in hsy (by decide)) ⟨by decide, by decide⟩ dX11_says_23 (fun f11 H locs h tf11 of11 hq => ?_)
    have k12 := atp.tg k_u0_31 hq hu0 (by decide)
    refine lv_aload_n hx hb dX11_says_24 rfl (lv_at hl 1 rfl) ?_
    refine lv_dup hx hb dX11_says_25 rfl ?_
    refine t_getfd C h tf11 hu0 (by decide) wf_60 (v := .int sy) k12 fl_X11_417 dX11_says_26 ?_
    refine lv_iconst (v := 1) hx hb dX11_says_29 (by decide) ?_
    refine i_addk hx hb dX11_says_30 hsy (k := 1) rfl (lo := 1) (hi := 80) (by decide) (fun z13 ez13 mz13 iz13 => ?_)
    refine t_put C h tf11 of11 hu0 (by decide) (by decide) (by decide) wf_60 fw_60 (k := 31) rfl flw_X11_417 (Or.inr ⟨_, _, _, rfl, rfl⟩) (v := .int z13) rfl rfl ⟨_, rfl, (iv_w iz13 (by decide))⟩ dX11_says_31 (fun f14 H locs h tf14 of14 hq ha_ hn_ hk_ => ?_)
    have k16 := ha_
    refine lv_iinc (v := 1) (lv' := [(2, .int 1), (0, .ref u0), (1, .ref (G (20 + 9)))]) hx hb dX11_says_34 hl (k := 0) rfl (by decide) (by decide) rfl (fun ls hl => ?_)
    refine lv_goto (tgt := 2) hx hb dX11_says_37 (by decide) ?_
    refine lv_iload_n hx hb dX11_says_2 rfl (lv_at hl 0 rfl) ?_
    refine lv_aload_n hx hb dX11_says_3 rfl (lv_at hl 2 rfl) ?_
    have hrv := vk_recv hE0.2.2.2.2.2.2.2.2.2.1 (i := 9) (by decide) h.2.2.1
    refine k_i (r_VK C h hl (As := []) (rest := [.int 1]) (c_length l D G b0 f14 9 (by decide)) hrv mk_J0_length_8abf5 w_1574 w_1252 w_1253 w_1254 ⟨(Nat.le_of_ble_eq_true rfl), (Nat.le_of_ble_eq_true rfl)⟩ rfl (Nat.le_of_ble_eq_true rfl) ⟨(Nat.le_of_ble_eq_true rfl), (Nat.le_of_ble_eq_true rfl)⟩ rfl dX11_says_4) h (fun r17 f18 H locs p19 h => ?_)
    obtain ⟨er17, rfl⟩ := p19
    obtain rfl : (1 : Int32) = r17 := by rw [er17]; decide
    refine lv_icmp_ge (tgt := 40) hx hb dX11_says_7 (by decide) (fun c20 => ?_) (fun c20 => ?_)
    · exact u_vret C h hr hQ (⟨tf14, of14, ⟨z13, k16, (iv_w iz13 (by decide)), (by omega)⟩⟩) (Nat.le_of_ble_eq_true rfl) (Nat.le_of_ble_eq_true rfl) dX11_says_40
    · exact absurd c20 (by decide)
abbrev rm_s_X11_saysX10 : Room := { frames := 4, cells := 0, slots := 0, locals := 85 }
set_option maxRecDepth 100000 in
set_option maxHeartbeats 4000000 in
theorem s_X11_saysX10 (l : Launch) (D : va_G) (G : Nat → Nat) (b0 : Nat) (τ : Nat → Nat) (f : hM) (t : TI G 9 τ f) (u0 : Nat) (hu0 : τ u0 = 60) (sy : Int32) (hsy : iv sy 0 73) (k_u0_31 : atp f u0 (fd 31 (.int sy))) : mV l yX11_says cX11_says 3 rm_s_X11_saysX10 D G b0 f [.ref u0, .ref (G (20 + 10))] (fun f1 => TI G 9 τ f1 ∧ Fr [60, 77, 60032] τ f f1 ∧ (∃ sy1 : Int32, atp f1 u0 (fd 31 (.int sy1)) ∧ iv sy1 0 80 ∧ sy1.toInt = sy.toInt + 7)) := by
  refine met2 (own := RX11) (by decide) rfl (Nat.le_of_ble_eq_true rfl) ?_
  intro p e s m args below meth c ls Q hQ C hr hini hl h
  have hl : lv_has ls 3 [(0, .ref u0), (1, .ref (G (20 + 10)))] := hl
  obtain ⟨hx, hb, hml, hown, hts, hE0, hlk⟩ := id C
  have o := Fr.rf [60, 77, 60032] τ f
  refine lv_iconst (v := 0) hx hb dX11_says_0 (by decide) ?_
  refine lv_istore_n (lv' := [(2, .int 0), (0, .ref u0), (1, .ref (G (20 + 10)))]) hx hb dX11_says_1 rfl hl (by decide) rfl (fun ls hl => ?_)
  refine lv_iload_n hx hb dX11_says_2 rfl (lv_at hl 0 rfl) ?_
  refine lv_aload_n hx hb dX11_says_3 rfl (lv_at hl 2 rfl) ?_
  have hrv := vk_recv hE0.2.2.2.2.2.2.2.2.2.1 (i := 10) (by decide) h.2.2.1
  refine k_i (r_VK C h hl (As := []) (rest := [.int 0]) (c_length l D G b0 f 10 (by decide)) hrv mk_J0_length_8abf5 w_1574 w_1252 w_1253 w_1254 ⟨(Nat.le_of_ble_eq_true rfl), (Nat.le_of_ble_eq_true rfl)⟩ rfl (Nat.le_of_ble_eq_true rfl) ⟨(Nat.le_of_ble_eq_true rfl), (Nat.le_of_ble_eq_true rfl)⟩ rfl dX11_says_4) h (fun r1 f2 H locs p3 h => ?_)
  obtain ⟨er1, rfl⟩ := p3
  obtain rfl : (7 : Int32) = r1 := by rw [er1]; decide
  refine lv_icmp_ge (tgt := 40) hx hb dX11_says_7 (by decide) (fun c4 => ?_) (fun c4 => ?_)
  · exact absurd c4 (by decide)
  · refine lv_aload_n hx hb dX11_says_10 rfl (lv_at hl 1 rfl) ?_
    refine t_getr (tq := 77) C h t hu0 (by decide) wf_60 rfl fl_X11_72 dX11_says_11 (fun q7 tq7 => ?_)
    refine lv_aload_n hx hb dX11_says_14 rfl (lv_at hl 1 rfl) ?_
    refine t_getfd C h t hu0 (by decide) wf_60 (v := .int sy) k_u0_31 fl_X11_417 dX11_says_15 ?_
    refine lv_aload_n hx hb dX11_says_18 rfl (lv_at hl 2 rfl) ?_
    refine lv_iload_n hx hb dX11_says_19 rfl (lv_at hl 0 rfl) ?_
    have hrv := vk_recv hE0.2.2.2.2.2.2.2.2.2.1 (i := 10) (by decide) h.2.2.1
    refine k_i (r_VK C h hl (As := [.int 0]) (rest := [.int sy, .ref q7]) (c_charAt l D G b0 f 10 (by decide) 0 (by decide) (by unfold vp_in; decide)) hrv mk_J0_charAt_5068e w_1575 w_473 w_474 w_475 ⟨(Nat.le_of_ble_eq_true rfl), (Nat.le_of_ble_eq_true rfl)⟩ rfl (Nat.le_of_ble_eq_true rfl) ⟨(Nat.le_of_ble_eq_true rfl), (Nat.le_of_ble_eq_true rfl)⟩ rfl dX11_says_20) h (fun r8 f9 H locs p10 h => ?_)
    obtain ⟨er8, rfl⟩ := p10
    obtain rfl : (59 : Int32) = r8 := by rw [er8]; decide
    refine t_iast C h t o tq7 (by decide) (by decide) wf_77 fw_77 (iv_in hsy (by decide)) ⟨by decide, by decide⟩ dX11_says_23 (fun f11 H locs h tf11 of11 hq => ?_)
    have k12 := atp.tg k_u0_31 hq hu0 (by decide)
    refine lv_aload_n hx hb dX11_says_24 rfl (lv_at hl 1 rfl) ?_
    refine lv_dup hx hb dX11_says_25 rfl ?_
    refine t_getfd C h tf11 hu0 (by decide) wf_60 (v := .int sy) k12 fl_X11_417 dX11_says_26 ?_
    refine lv_iconst (v := 1) hx hb dX11_says_29 (by decide) ?_
    refine i_addk hx hb dX11_says_30 hsy (k := 1) rfl (lo := 1) (hi := 74) (by decide) (fun z13 ez13 mz13 iz13 => ?_)
    refine t_put C h tf11 of11 hu0 (by decide) (by decide) (by decide) wf_60 fw_60 (k := 31) rfl flw_X11_417 (Or.inr ⟨_, _, _, rfl, rfl⟩) (v := .int z13) rfl rfl ⟨_, rfl, (iv_w iz13 (by decide))⟩ dX11_says_31 (fun f14 H locs h tf14 of14 hq ha_ hn_ hk_ => ?_)
    have k16 := ha_
    refine lv_iinc (v := 1) (lv' := [(2, .int 1), (0, .ref u0), (1, .ref (G (20 + 10)))]) hx hb dX11_says_34 hl (k := 0) rfl (by decide) (by decide) rfl (fun ls hl => ?_)
    refine lv_goto (tgt := 2) hx hb dX11_says_37 (by decide) ?_
    refine lv_iload_n hx hb dX11_says_2 rfl (lv_at hl 0 rfl) ?_
    refine lv_aload_n hx hb dX11_says_3 rfl (lv_at hl 2 rfl) ?_
    have hrv := vk_recv hE0.2.2.2.2.2.2.2.2.2.1 (i := 10) (by decide) h.2.2.1
    refine k_i (r_VK C h hl (As := []) (rest := [.int 1]) (c_length l D G b0 f14 10 (by decide)) hrv mk_J0_length_8abf5 w_1574 w_1252 w_1253 w_1254 ⟨(Nat.le_of_ble_eq_true rfl), (Nat.le_of_ble_eq_true rfl)⟩ rfl (Nat.le_of_ble_eq_true rfl) ⟨(Nat.le_of_ble_eq_true rfl), (Nat.le_of_ble_eq_true rfl)⟩ rfl dX11_says_4) h (fun r17 f18 H locs p19 h => ?_)
    obtain ⟨er17, rfl⟩ := p19
    obtain rfl : (7 : Int32) = r17 := by rw [er17]; decide
    refine lv_icmp_ge (tgt := 40) hx hb dX11_says_7 (by decide) (fun c20 => ?_) (fun c20 => ?_)
    · exact absurd c20 (by decide)
    · refine lv_aload_n hx hb dX11_says_10 rfl (lv_at hl 1 rfl) ?_
      refine t_getr (tq := 77) C h tf14 hu0 (by decide) wf_60 rfl fl_X11_72 dX11_says_11 (fun q23 tq23 => ?_)
      refine lv_aload_n hx hb dX11_says_14 rfl (lv_at hl 1 rfl) ?_
      refine t_getfd C h tf14 hu0 (by decide) wf_60 (v := .int z13) k16 fl_X11_417 dX11_says_15 ?_
      refine lv_aload_n hx hb dX11_says_18 rfl (lv_at hl 2 rfl) ?_
      refine lv_iload_n hx hb dX11_says_19 rfl (lv_at hl 0 rfl) ?_
      have hrv := vk_recv hE0.2.2.2.2.2.2.2.2.2.1 (i := 10) (by decide) h.2.2.1
      refine k_i (r_VK C h hl (As := [.int 1]) (rest := [.int z13, .ref q23]) (c_charAt l D G b0 f14 10 (by decide) 1 (by decide) (by unfold vp_in; decide)) hrv mk_J0_charAt_5068e w_1575 w_473 w_474 w_475 ⟨(Nat.le_of_ble_eq_true rfl), (Nat.le_of_ble_eq_true rfl)⟩ rfl (Nat.le_of_ble_eq_true rfl) ⟨(Nat.le_of_ble_eq_true rfl), (Nat.le_of_ble_eq_true rfl)⟩ rfl dX11_says_20) h (fun r24 f25 H locs p26 h => ?_)
      obtain ⟨er24, rfl⟩ := p26
      obtain rfl : (32 : Int32) = r24 := by rw [er24]; decide
      refine t_iast C h tf14 of14 tq23 (by decide) (by decide) wf_77 fw_77 (iv_in iz13 (by decide)) ⟨by decide, by decide⟩ dX11_says_23 (fun f27 H locs h tf27 of27 hq => ?_)
      have k28 := atp.tg k16 hq hu0 (by decide)
      refine lv_aload_n hx hb dX11_says_24 rfl (lv_at hl 1 rfl) ?_
      refine lv_dup hx hb dX11_says_25 rfl ?_
      refine t_getfd C h tf27 hu0 (by decide) wf_60 (v := .int z13) k28 fl_X11_417 dX11_says_26 ?_
      refine lv_iconst (v := 1) hx hb dX11_says_29 (by decide) ?_
      refine i_addk hx hb dX11_says_30 iz13 (k := 1) rfl (lo := 2) (hi := 75) (by decide) (fun z29 ez29 mz29 iz29 => ?_)
      refine t_put C h tf27 of27 hu0 (by decide) (by decide) (by decide) wf_60 fw_60 (k := 31) rfl flw_X11_417 (Or.inr ⟨_, _, _, rfl, rfl⟩) (v := .int z29) rfl rfl ⟨_, rfl, (iv_w iz29 (by decide))⟩ dX11_says_31 (fun f30 H locs h tf30 of30 hq ha_ hn_ hk_ => ?_)
      have k32 := ha_
      refine lv_iinc (v := 2) (lv' := [(2, .int 2), (0, .ref u0), (1, .ref (G (20 + 10)))]) hx hb dX11_says_34 hl (k := 0) rfl (by decide) (by decide) rfl (fun ls hl => ?_)
      refine lv_goto (tgt := 2) hx hb dX11_says_37 (by decide) ?_
      refine lv_iload_n hx hb dX11_says_2 rfl (lv_at hl 0 rfl) ?_
      refine lv_aload_n hx hb dX11_says_3 rfl (lv_at hl 2 rfl) ?_
      have hrv := vk_recv hE0.2.2.2.2.2.2.2.2.2.1 (i := 10) (by decide) h.2.2.1
      refine k_i (r_VK C h hl (As := []) (rest := [.int 2]) (c_length l D G b0 f30 10 (by decide)) hrv mk_J0_length_8abf5 w_1574 w_1252 w_1253 w_1254 ⟨(Nat.le_of_ble_eq_true rfl), (Nat.le_of_ble_eq_true rfl)⟩ rfl (Nat.le_of_ble_eq_true rfl) ⟨(Nat.le_of_ble_eq_true rfl), (Nat.le_of_ble_eq_true rfl)⟩ rfl dX11_says_4) h (fun r33 f34 H locs p35 h => ?_)
      obtain ⟨er33, rfl⟩ := p35
      obtain rfl : (7 : Int32) = r33 := by rw [er33]; decide
      refine lv_icmp_ge (tgt := 40) hx hb dX11_says_7 (by decide) (fun c36 => ?_) (fun c36 => ?_)
      · exact absurd c36 (by decide)
      · refine lv_aload_n hx hb dX11_says_10 rfl (lv_at hl 1 rfl) ?_
        refine t_getr (tq := 77) C h tf30 hu0 (by decide) wf_60 rfl fl_X11_72 dX11_says_11 (fun q39 tq39 => ?_)
        refine lv_aload_n hx hb dX11_says_14 rfl (lv_at hl 1 rfl) ?_
        refine t_getfd C h tf30 hu0 (by decide) wf_60 (v := .int z29) k32 fl_X11_417 dX11_says_15 ?_
        refine lv_aload_n hx hb dX11_says_18 rfl (lv_at hl 2 rfl) ?_
        refine lv_iload_n hx hb dX11_says_19 rfl (lv_at hl 0 rfl) ?_
        have hrv := vk_recv hE0.2.2.2.2.2.2.2.2.2.1 (i := 10) (by decide) h.2.2.1
        refine k_i (r_VK C h hl (As := [.int 2]) (rest := [.int z29, .ref q39]) (c_charAt l D G b0 f30 10 (by decide) 2 (by decide) (by unfold vp_in; decide)) hrv mk_J0_charAt_5068e w_1575 w_473 w_474 w_475 ⟨(Nat.le_of_ble_eq_true rfl), (Nat.le_of_ble_eq_true rfl)⟩ rfl (Nat.le_of_ble_eq_true rfl) ⟨(Nat.le_of_ble_eq_true rfl), (Nat.le_of_ble_eq_true rfl)⟩ rfl dX11_says_20) h (fun r40 f41 H locs p42 h => ?_)
        obtain ⟨er40, rfl⟩ := p42
        obtain rfl : (102 : Int32) = r40 := by rw [er40]; decide
        refine t_iast C h tf30 of30 tq39 (by decide) (by decide) wf_77 fw_77 (iv_in iz29 (by decide)) ⟨by decide, by decide⟩ dX11_says_23 (fun f43 H locs h tf43 of43 hq => ?_)
        have k44 := atp.tg k32 hq hu0 (by decide)
        refine lv_aload_n hx hb dX11_says_24 rfl (lv_at hl 1 rfl) ?_
        refine lv_dup hx hb dX11_says_25 rfl ?_
        refine t_getfd C h tf43 hu0 (by decide) wf_60 (v := .int z29) k44 fl_X11_417 dX11_says_26 ?_
        refine lv_iconst (v := 1) hx hb dX11_says_29 (by decide) ?_
        refine i_addk hx hb dX11_says_30 iz29 (k := 1) rfl (lo := 3) (hi := 76) (by decide) (fun z45 ez45 mz45 iz45 => ?_)
        refine t_put C h tf43 of43 hu0 (by decide) (by decide) (by decide) wf_60 fw_60 (k := 31) rfl flw_X11_417 (Or.inr ⟨_, _, _, rfl, rfl⟩) (v := .int z45) rfl rfl ⟨_, rfl, (iv_w iz45 (by decide))⟩ dX11_says_31 (fun f46 H locs h tf46 of46 hq ha_ hn_ hk_ => ?_)
        have k48 := ha_
        refine lv_iinc (v := 3) (lv' := [(2, .int 3), (0, .ref u0), (1, .ref (G (20 + 10)))]) hx hb dX11_says_34 hl (k := 0) rfl (by decide) (by decide) rfl (fun ls hl => ?_)
        refine lv_goto (tgt := 2) hx hb dX11_says_37 (by decide) ?_
        refine lv_iload_n hx hb dX11_says_2 rfl (lv_at hl 0 rfl) ?_
        refine lv_aload_n hx hb dX11_says_3 rfl (lv_at hl 2 rfl) ?_
        have hrv := vk_recv hE0.2.2.2.2.2.2.2.2.2.1 (i := 10) (by decide) h.2.2.1
        refine k_i (r_VK C h hl (As := []) (rest := [.int 3]) (c_length l D G b0 f46 10 (by decide)) hrv mk_J0_length_8abf5 w_1574 w_1252 w_1253 w_1254 ⟨(Nat.le_of_ble_eq_true rfl), (Nat.le_of_ble_eq_true rfl)⟩ rfl (Nat.le_of_ble_eq_true rfl) ⟨(Nat.le_of_ble_eq_true rfl), (Nat.le_of_ble_eq_true rfl)⟩ rfl dX11_says_4) h (fun r49 f50 H locs p51 h => ?_)
        obtain ⟨er49, rfl⟩ := p51
        obtain rfl : (7 : Int32) = r49 := by rw [er49]; decide
        refine lv_icmp_ge (tgt := 40) hx hb dX11_says_7 (by decide) (fun c52 => ?_) (fun c52 => ?_)
        · exact absurd c52 (by decide)
        · refine lv_aload_n hx hb dX11_says_10 rfl (lv_at hl 1 rfl) ?_
          refine t_getr (tq := 77) C h tf46 hu0 (by decide) wf_60 rfl fl_X11_72 dX11_says_11 (fun q55 tq55 => ?_)
          refine lv_aload_n hx hb dX11_says_14 rfl (lv_at hl 1 rfl) ?_
          refine t_getfd C h tf46 hu0 (by decide) wf_60 (v := .int z45) k48 fl_X11_417 dX11_says_15 ?_
          refine lv_aload_n hx hb dX11_says_18 rfl (lv_at hl 2 rfl) ?_
          refine lv_iload_n hx hb dX11_says_19 rfl (lv_at hl 0 rfl) ?_
          have hrv := vk_recv hE0.2.2.2.2.2.2.2.2.2.1 (i := 10) (by decide) h.2.2.1
          refine k_i (r_VK C h hl (As := [.int 3]) (rest := [.int z45, .ref q55]) (c_charAt l D G b0 f46 10 (by decide) 3 (by decide) (by unfold vp_in; decide)) hrv mk_J0_charAt_5068e w_1575 w_473 w_474 w_475 ⟨(Nat.le_of_ble_eq_true rfl), (Nat.le_of_ble_eq_true rfl)⟩ rfl (Nat.le_of_ble_eq_true rfl) ⟨(Nat.le_of_ble_eq_true rfl), (Nat.le_of_ble_eq_true rfl)⟩ rfl dX11_says_20) h (fun r56 f57 H locs p58 h => ?_)
          obtain ⟨er56, rfl⟩ := p58
          obtain rfl : (114 : Int32) = r56 := by rw [er56]; decide
          refine t_iast C h tf46 of46 tq55 (by decide) (by decide) wf_77 fw_77 (iv_in iz45 (by decide)) ⟨by decide, by decide⟩ dX11_says_23 (fun f59 H locs h tf59 of59 hq => ?_)
          have k60 := atp.tg k48 hq hu0 (by decide)
          refine lv_aload_n hx hb dX11_says_24 rfl (lv_at hl 1 rfl) ?_
          refine lv_dup hx hb dX11_says_25 rfl ?_
          refine t_getfd C h tf59 hu0 (by decide) wf_60 (v := .int z45) k60 fl_X11_417 dX11_says_26 ?_
          refine lv_iconst (v := 1) hx hb dX11_says_29 (by decide) ?_
          refine i_addk hx hb dX11_says_30 iz45 (k := 1) rfl (lo := 4) (hi := 77) (by decide) (fun z61 ez61 mz61 iz61 => ?_)
          refine t_put C h tf59 of59 hu0 (by decide) (by decide) (by decide) wf_60 fw_60 (k := 31) rfl flw_X11_417 (Or.inr ⟨_, _, _, rfl, rfl⟩) (v := .int z61) rfl rfl ⟨_, rfl, (iv_w iz61 (by decide))⟩ dX11_says_31 (fun f62 H locs h tf62 of62 hq ha_ hn_ hk_ => ?_)
          have k64 := ha_
          refine lv_iinc (v := 4) (lv' := [(2, .int 4), (0, .ref u0), (1, .ref (G (20 + 10)))]) hx hb dX11_says_34 hl (k := 0) rfl (by decide) (by decide) rfl (fun ls hl => ?_)
          refine lv_goto (tgt := 2) hx hb dX11_says_37 (by decide) ?_
          refine lv_iload_n hx hb dX11_says_2 rfl (lv_at hl 0 rfl) ?_
          refine lv_aload_n hx hb dX11_says_3 rfl (lv_at hl 2 rfl) ?_
          have hrv := vk_recv hE0.2.2.2.2.2.2.2.2.2.1 (i := 10) (by decide) h.2.2.1
          refine k_i (r_VK C h hl (As := []) (rest := [.int 4]) (c_length l D G b0 f62 10 (by decide)) hrv mk_J0_length_8abf5 w_1574 w_1252 w_1253 w_1254 ⟨(Nat.le_of_ble_eq_true rfl), (Nat.le_of_ble_eq_true rfl)⟩ rfl (Nat.le_of_ble_eq_true rfl) ⟨(Nat.le_of_ble_eq_true rfl), (Nat.le_of_ble_eq_true rfl)⟩ rfl dX11_says_4) h (fun r65 f66 H locs p67 h => ?_)
          obtain ⟨er65, rfl⟩ := p67
          obtain rfl : (7 : Int32) = r65 := by rw [er65]; decide
          refine lv_icmp_ge (tgt := 40) hx hb dX11_says_7 (by decide) (fun c68 => ?_) (fun c68 => ?_)
          · exact absurd c68 (by decide)
          · refine lv_aload_n hx hb dX11_says_10 rfl (lv_at hl 1 rfl) ?_
            refine t_getr (tq := 77) C h tf62 hu0 (by decide) wf_60 rfl fl_X11_72 dX11_says_11 (fun q71 tq71 => ?_)
            refine lv_aload_n hx hb dX11_says_14 rfl (lv_at hl 1 rfl) ?_
            refine t_getfd C h tf62 hu0 (by decide) wf_60 (v := .int z61) k64 fl_X11_417 dX11_says_15 ?_
            refine lv_aload_n hx hb dX11_says_18 rfl (lv_at hl 2 rfl) ?_
            refine lv_iload_n hx hb dX11_says_19 rfl (lv_at hl 0 rfl) ?_
            have hrv := vk_recv hE0.2.2.2.2.2.2.2.2.2.1 (i := 10) (by decide) h.2.2.1
            refine k_i (r_VK C h hl (As := [.int 4]) (rest := [.int z61, .ref q71]) (c_charAt l D G b0 f62 10 (by decide) 4 (by decide) (by unfold vp_in; decide)) hrv mk_J0_charAt_5068e w_1575 w_473 w_474 w_475 ⟨(Nat.le_of_ble_eq_true rfl), (Nat.le_of_ble_eq_true rfl)⟩ rfl (Nat.le_of_ble_eq_true rfl) ⟨(Nat.le_of_ble_eq_true rfl), (Nat.le_of_ble_eq_true rfl)⟩ rfl dX11_says_20) h (fun r72 f73 H locs p74 h => ?_)
            obtain ⟨er72, rfl⟩ := p74
            obtain rfl : (111 : Int32) = r72 := by rw [er72]; decide
            refine t_iast C h tf62 of62 tq71 (by decide) (by decide) wf_77 fw_77 (iv_in iz61 (by decide)) ⟨by decide, by decide⟩ dX11_says_23 (fun f75 H locs h tf75 of75 hq => ?_)
            have k76 := atp.tg k64 hq hu0 (by decide)
            refine lv_aload_n hx hb dX11_says_24 rfl (lv_at hl 1 rfl) ?_
            refine lv_dup hx hb dX11_says_25 rfl ?_
            refine t_getfd C h tf75 hu0 (by decide) wf_60 (v := .int z61) k76 fl_X11_417 dX11_says_26 ?_
            refine lv_iconst (v := 1) hx hb dX11_says_29 (by decide) ?_
            refine i_addk hx hb dX11_says_30 iz61 (k := 1) rfl (lo := 5) (hi := 78) (by decide) (fun z77 ez77 mz77 iz77 => ?_)
            refine t_put C h tf75 of75 hu0 (by decide) (by decide) (by decide) wf_60 fw_60 (k := 31) rfl flw_X11_417 (Or.inr ⟨_, _, _, rfl, rfl⟩) (v := .int z77) rfl rfl ⟨_, rfl, (iv_w iz77 (by decide))⟩ dX11_says_31 (fun f78 H locs h tf78 of78 hq ha_ hn_ hk_ => ?_)
            have k80 := ha_
            refine lv_iinc (v := 5) (lv' := [(2, .int 5), (0, .ref u0), (1, .ref (G (20 + 10)))]) hx hb dX11_says_34 hl (k := 0) rfl (by decide) (by decide) rfl (fun ls hl => ?_)
            refine lv_goto (tgt := 2) hx hb dX11_says_37 (by decide) ?_
            refine lv_iload_n hx hb dX11_says_2 rfl (lv_at hl 0 rfl) ?_
            refine lv_aload_n hx hb dX11_says_3 rfl (lv_at hl 2 rfl) ?_
            have hrv := vk_recv hE0.2.2.2.2.2.2.2.2.2.1 (i := 10) (by decide) h.2.2.1
            refine k_i (r_VK C h hl (As := []) (rest := [.int 5]) (c_length l D G b0 f78 10 (by decide)) hrv mk_J0_length_8abf5 w_1574 w_1252 w_1253 w_1254 ⟨(Nat.le_of_ble_eq_true rfl), (Nat.le_of_ble_eq_true rfl)⟩ rfl (Nat.le_of_ble_eq_true rfl) ⟨(Nat.le_of_ble_eq_true rfl), (Nat.le_of_ble_eq_true rfl)⟩ rfl dX11_says_4) h (fun r81 f82 H locs p83 h => ?_)
            obtain ⟨er81, rfl⟩ := p83
            obtain rfl : (7 : Int32) = r81 := by rw [er81]; decide
            refine lv_icmp_ge (tgt := 40) hx hb dX11_says_7 (by decide) (fun c84 => ?_) (fun c84 => ?_)
            · exact absurd c84 (by decide)
            · refine lv_aload_n hx hb dX11_says_10 rfl (lv_at hl 1 rfl) ?_
              refine t_getr (tq := 77) C h tf78 hu0 (by decide) wf_60 rfl fl_X11_72 dX11_says_11 (fun q87 tq87 => ?_)
              refine lv_aload_n hx hb dX11_says_14 rfl (lv_at hl 1 rfl) ?_
              refine t_getfd C h tf78 hu0 (by decide) wf_60 (v := .int z77) k80 fl_X11_417 dX11_says_15 ?_
              refine lv_aload_n hx hb dX11_says_18 rfl (lv_at hl 2 rfl) ?_
              refine lv_iload_n hx hb dX11_says_19 rfl (lv_at hl 0 rfl) ?_
              have hrv := vk_recv hE0.2.2.2.2.2.2.2.2.2.1 (i := 10) (by decide) h.2.2.1
              refine k_i (r_VK C h hl (As := [.int 5]) (rest := [.int z77, .ref q87]) (c_charAt l D G b0 f78 10 (by decide) 5 (by decide) (by unfold vp_in; decide)) hrv mk_J0_charAt_5068e w_1575 w_473 w_474 w_475 ⟨(Nat.le_of_ble_eq_true rfl), (Nat.le_of_ble_eq_true rfl)⟩ rfl (Nat.le_of_ble_eq_true rfl) ⟨(Nat.le_of_ble_eq_true rfl), (Nat.le_of_ble_eq_true rfl)⟩ rfl dX11_says_20) h (fun r88 f89 H locs p90 h => ?_)
              obtain ⟨er88, rfl⟩ := p90
              obtain rfl : (109 : Int32) = r88 := by rw [er88]; decide
              refine t_iast C h tf78 of78 tq87 (by decide) (by decide) wf_77 fw_77 (iv_in iz77 (by decide)) ⟨by decide, by decide⟩ dX11_says_23 (fun f91 H locs h tf91 of91 hq => ?_)
              have k92 := atp.tg k80 hq hu0 (by decide)
              refine lv_aload_n hx hb dX11_says_24 rfl (lv_at hl 1 rfl) ?_
              refine lv_dup hx hb dX11_says_25 rfl ?_
              refine t_getfd C h tf91 hu0 (by decide) wf_60 (v := .int z77) k92 fl_X11_417 dX11_says_26 ?_
              refine lv_iconst (v := 1) hx hb dX11_says_29 (by decide) ?_
              refine i_addk hx hb dX11_says_30 iz77 (k := 1) rfl (lo := 6) (hi := 79) (by decide) (fun z93 ez93 mz93 iz93 => ?_)
              refine t_put C h tf91 of91 hu0 (by decide) (by decide) (by decide) wf_60 fw_60 (k := 31) rfl flw_X11_417 (Or.inr ⟨_, _, _, rfl, rfl⟩) (v := .int z93) rfl rfl ⟨_, rfl, (iv_w iz93 (by decide))⟩ dX11_says_31 (fun f94 H locs h tf94 of94 hq ha_ hn_ hk_ => ?_)
              have k96 := ha_
              refine lv_iinc (v := 6) (lv' := [(2, .int 6), (0, .ref u0), (1, .ref (G (20 + 10)))]) hx hb dX11_says_34 hl (k := 0) rfl (by decide) (by decide) rfl (fun ls hl => ?_)
              refine lv_goto (tgt := 2) hx hb dX11_says_37 (by decide) ?_
              refine lv_iload_n hx hb dX11_says_2 rfl (lv_at hl 0 rfl) ?_
              refine lv_aload_n hx hb dX11_says_3 rfl (lv_at hl 2 rfl) ?_
              have hrv := vk_recv hE0.2.2.2.2.2.2.2.2.2.1 (i := 10) (by decide) h.2.2.1
              refine k_i (r_VK C h hl (As := []) (rest := [.int 6]) (c_length l D G b0 f94 10 (by decide)) hrv mk_J0_length_8abf5 w_1574 w_1252 w_1253 w_1254 ⟨(Nat.le_of_ble_eq_true rfl), (Nat.le_of_ble_eq_true rfl)⟩ rfl (Nat.le_of_ble_eq_true rfl) ⟨(Nat.le_of_ble_eq_true rfl), (Nat.le_of_ble_eq_true rfl)⟩ rfl dX11_says_4) h (fun r97 f98 H locs p99 h => ?_)
              obtain ⟨er97, rfl⟩ := p99
              obtain rfl : (7 : Int32) = r97 := by rw [er97]; decide
              refine lv_icmp_ge (tgt := 40) hx hb dX11_says_7 (by decide) (fun c100 => ?_) (fun c100 => ?_)
              · exact absurd c100 (by decide)
              · refine lv_aload_n hx hb dX11_says_10 rfl (lv_at hl 1 rfl) ?_
                refine t_getr (tq := 77) C h tf94 hu0 (by decide) wf_60 rfl fl_X11_72 dX11_says_11 (fun q103 tq103 => ?_)
                refine lv_aload_n hx hb dX11_says_14 rfl (lv_at hl 1 rfl) ?_
                refine t_getfd C h tf94 hu0 (by decide) wf_60 (v := .int z93) k96 fl_X11_417 dX11_says_15 ?_
                refine lv_aload_n hx hb dX11_says_18 rfl (lv_at hl 2 rfl) ?_
                refine lv_iload_n hx hb dX11_says_19 rfl (lv_at hl 0 rfl) ?_
                have hrv := vk_recv hE0.2.2.2.2.2.2.2.2.2.1 (i := 10) (by decide) h.2.2.1
                refine k_i (r_VK C h hl (As := [.int 6]) (rest := [.int z93, .ref q103]) (c_charAt l D G b0 f94 10 (by decide) 6 (by decide) (by unfold vp_in; decide)) hrv mk_J0_charAt_5068e w_1575 w_473 w_474 w_475 ⟨(Nat.le_of_ble_eq_true rfl), (Nat.le_of_ble_eq_true rfl)⟩ rfl (Nat.le_of_ble_eq_true rfl) ⟨(Nat.le_of_ble_eq_true rfl), (Nat.le_of_ble_eq_true rfl)⟩ rfl dX11_says_20) h (fun r104 f105 H locs p106 h => ?_)
                obtain ⟨er104, rfl⟩ := p106
                obtain rfl : (32 : Int32) = r104 := by rw [er104]; decide
                refine t_iast C h tf94 of94 tq103 (by decide) (by decide) wf_77 fw_77 (iv_in iz93 (by decide)) ⟨by decide, by decide⟩ dX11_says_23 (fun f107 H locs h tf107 of107 hq => ?_)
                have k108 := atp.tg k96 hq hu0 (by decide)
                refine lv_aload_n hx hb dX11_says_24 rfl (lv_at hl 1 rfl) ?_
                refine lv_dup hx hb dX11_says_25 rfl ?_
                refine t_getfd C h tf107 hu0 (by decide) wf_60 (v := .int z93) k108 fl_X11_417 dX11_says_26 ?_
                refine lv_iconst (v := 1) hx hb dX11_says_29 (by decide) ?_
                refine i_addk hx hb dX11_says_30 iz93 (k := 1) rfl (lo := 7) (hi := 80) (by decide) (fun z109 ez109 mz109 iz109 => ?_)
                refine t_put C h tf107 of107 hu0 (by decide) (by decide) (by decide) wf_60 fw_60 (k := 31) rfl flw_X11_417 (Or.inr ⟨_, _, _, rfl, rfl⟩) (v := .int z109) rfl rfl ⟨_, rfl, (iv_w iz109 (by decide))⟩ dX11_says_31 (fun f110 H locs h tf110 of110 hq ha_ hn_ hk_ => ?_)
                have k112 := ha_
                refine lv_iinc (v := 7) (lv' := [(2, .int 7), (0, .ref u0), (1, .ref (G (20 + 10)))]) hx hb dX11_says_34 hl (k := 0) rfl (by decide) (by decide) rfl (fun ls hl => ?_)
                refine lv_goto (tgt := 2) hx hb dX11_says_37 (by decide) ?_
                refine lv_iload_n hx hb dX11_says_2 rfl (lv_at hl 0 rfl) ?_
                refine lv_aload_n hx hb dX11_says_3 rfl (lv_at hl 2 rfl) ?_
                have hrv := vk_recv hE0.2.2.2.2.2.2.2.2.2.1 (i := 10) (by decide) h.2.2.1
                refine k_i (r_VK C h hl (As := []) (rest := [.int 7]) (c_length l D G b0 f110 10 (by decide)) hrv mk_J0_length_8abf5 w_1574 w_1252 w_1253 w_1254 ⟨(Nat.le_of_ble_eq_true rfl), (Nat.le_of_ble_eq_true rfl)⟩ rfl (Nat.le_of_ble_eq_true rfl) ⟨(Nat.le_of_ble_eq_true rfl), (Nat.le_of_ble_eq_true rfl)⟩ rfl dX11_says_4) h (fun r113 f114 H locs p115 h => ?_)
                obtain ⟨er113, rfl⟩ := p115
                obtain rfl : (7 : Int32) = r113 := by rw [er113]; decide
                refine lv_icmp_ge (tgt := 40) hx hb dX11_says_7 (by decide) (fun c116 => ?_) (fun c116 => ?_)
                · exact u_vret C h hr hQ (⟨tf110, of110, ⟨z109, k112, (iv_w iz109 (by decide)), (by omega)⟩⟩) (Nat.le_of_ble_eq_true rfl) (Nat.le_of_ble_eq_true rfl) dX11_says_40
                · exact absurd c116 (by decide)
abbrev rm_s_X11_saysDigitX : Room := { frames := 0, cells := 0, slots := 0, locals := 0 }
set_option maxRecDepth 100000 in
set_option maxHeartbeats 4000000 in
theorem s_X11_saysDigitX (l : Launch) (D : va_G) (G : Nat → Nat) (b0 : Nat) (τ : Nat → Nat) (f : hM) (t : TI G 9 τ f) (u0 : Nat) (hu0 : τ u0 = 60) (u1 : Int32) (hu1 : iv u1 0 9) (sy : Int32) (hsy : iv sy 0 79) (k_u0_31 : atp f u0 (fd 31 (.int sy))) : mV l yX11_saysDigit cX11_saysDigit 2 rm_s_X11_saysDigitX D G b0 f [.ref u0, .int u1] (fun f1 => TI G 9 τ f1 ∧ Fr [60, 77, 60032] τ f f1 ∧ (∃ sy1 : Int32, atp f1 u0 (fd 31 (.int sy1)) ∧ iv sy1 0 80 ∧ sy1.toInt = sy.toInt + 1)) := by
  refine met2 (own := RX11) (by decide) rfl (Nat.le_of_ble_eq_true rfl) ?_
  intro p e s m args below meth c ls Q hQ C hr hini hl h
  have hl : lv_has ls 2 [(0, .ref u0), (1, .int u1)] := hl
  obtain ⟨hx, hb, hml, hown, hts, hE0, hlk⟩ := id C
  have o := Fr.rf [60, 77, 60032] τ f
  refine lv_aload_n hx hb dX11_saysDigit_0 rfl (lv_at hl 0 rfl) ?_
  refine t_getr (tq := 77) C h t hu0 (by decide) wf_60 rfl fl_X11_72 dX11_saysDigit_1 (fun q1 tq1 => ?_)
  refine lv_aload_n hx hb dX11_saysDigit_4 rfl (lv_at hl 0 rfl) ?_
  refine t_getfd C h t hu0 (by decide) wf_60 (v := .int sy) k_u0_31 fl_X11_417 dX11_saysDigit_5 ?_
  refine lv_bipush (v := 48) hx hb dX11_saysDigit_8 (by decide) ?_
  refine lv_iload_n hx hb dX11_saysDigit_10 rfl (lv_at hl 1 rfl) ?_
  refine i_kadd hx hb dX11_saysDigit_11 (k := 48) rfl hu1 (lo := 48) (hi := 57) (by decide) (fun z2 ez2 mz2 iz2 => ?_)
  refine t_iast C h t o tq1 (by decide) (by decide) wf_77 fw_77 (iv_in hsy (by decide)) (iv_w iz2 (by decide)) dX11_saysDigit_12 (fun f3 H locs h tf3 of3 hq => ?_)
  have k4 := atp.tg k_u0_31 hq hu0 (by decide)
  refine lv_aload_n hx hb dX11_saysDigit_13 rfl (lv_at hl 0 rfl) ?_
  refine lv_dup hx hb dX11_saysDigit_14 rfl ?_
  refine t_getfd C h tf3 hu0 (by decide) wf_60 (v := .int sy) k4 fl_X11_417 dX11_saysDigit_15 ?_
  refine lv_iconst (v := 1) hx hb dX11_saysDigit_18 (by decide) ?_
  refine i_addk hx hb dX11_saysDigit_19 hsy (k := 1) rfl (lo := 1) (hi := 80) (by decide) (fun z5 ez5 mz5 iz5 => ?_)
  refine t_put C h tf3 of3 hu0 (by decide) (by decide) (by decide) wf_60 fw_60 (k := 31) rfl flw_X11_417 (Or.inr ⟨_, _, _, rfl, rfl⟩) (v := .int z5) rfl rfl ⟨_, rfl, (iv_w iz5 (by decide))⟩ dX11_saysDigit_20 (fun f6 H locs h tf6 of6 hq ha_ hn_ hk_ => ?_)
  have k8 := ha_
  exact u_vret C h hr hQ (⟨tf6, of6, ⟨z5, k8, (iv_w iz5 (by decide)), (by omega)⟩⟩) (Nat.le_of_ble_eq_true rfl) (Nat.le_of_ble_eq_true rfl) dX11_saysDigit_23
abbrev rm_s_X11_writesX : Room := { frames := 5, cells := 0, slots := 0, locals := 107 }
set_option maxRecDepth 100000 in
set_option maxHeartbeats 4000000 in
theorem s_X11_writesX (l : Launch) (D : va_G) (G : Nat → Nat) (b0 : Nat) (τ : Nat → Nat) (f : hM) (t : TI G 9 τ f) (u0 : Nat) (hu0 : τ u0 = 60) (u1 : Int32) (hu1 : iv u1 0 7) : mV l yX11_writes cX11_writes 4 rm_s_X11_writesX D G b0 f [.ref u0, .int u1] (fun f1 => TI G 9 τ f1 ∧ Fr [60, 77, 60032] τ f f1 ∧ (∃ sy1 : Int32, atp f1 u0 (fd 31 (.int sy1)) ∧ iv sy1 0 60 ∧ True)) := by
  refine met2 (own := RX11) (by decide) rfl (Nat.le_of_ble_eq_true rfl) ?_
  intro p e s m args below meth c ls Q hQ C hr hini hl h
  have hl : lv_has ls 4 [(0, .ref u0), (1, .int u1)] := hl
  obtain ⟨hx, hb, hml, hown, hts, hE0, hlk⟩ := id C
  have o := Fr.rf [60, 77, 60032] τ f
  have L7 : ∀ (n7 : Nat) (ls : Array Slot) (f_7 : hM) (H : Heap) (locs : List Loc) (v7_2 : Int32) (g7_u0_31 : Int32), 8 - v7_2.toInt < (n7 : Int) → lv_has ls 4 [(0, .ref u0), (1, .int u1), (2, .int v7_2)] → hw D b0 s.heap f_7 H locs → TI G 9 τ f_7 → Fr [60, 77, 60032] τ f f_7 → iv v7_2 0 8 → iv g7_u0_31 0 40 → atp f_7 u0 (fd 31 (.int g7_u0_31)) → g7_u0_31.toInt ≤ 5 * v7_2.toInt → W p l e rm_s_X11_writesX s m args below meth c H locs 0 0 Q (F0 m 7 ls []) := by
    intro n7
    induction n7 with
    | zero => intro ls f_7 H locs v7_2 g7_u0_31 hm7 hl h t_7 o_7 iv7_2 ig7_u0_31 k7_u0_31 hv7_0; exact absurd hm7 (by omega)
    | succ n7 ih7 =>
      intro ls f_7 H locs v7_2 g7_u0_31 hm7 hl h t_7 o_7 iv7_2 ig7_u0_31 k7_u0_31 hv7_0
      have L69 : ∀ (ls : Array Slot) (f_69 : hM) (H : Heap) (locs : List Loc) (g69_u0_31 : Int32), lv_has ls 4 [(0, .ref u0), (1, .int u1), (2, .int v7_2)] → hw D b0 s.heap f_69 H locs → TI G 9 τ f_69 → Fr [60, 77, 60032] τ f f_69 → iv v7_2 0 7 → iv g69_u0_31 0 40 → atp f_69 u0 (fd 31 (.int g69_u0_31)) → g69_u0_31.toInt ≤ 5 * v7_2.toInt + 5 → W p l e rm_s_X11_writesX s m args below meth c H locs 0 0 Q (F0 m 69 ls []) := by
        intro ls f_69 H locs g69_u0_31 hl h t_69 o_69 jv69_2 ig69_u0_31 k69_u0_31 hv69_0
        refine i_inc hx hb dX11_writes_69 hl (k := 2) rfl jv69_2 rfl (lo := 1) (hi := 8) (by decide) (by decide) (lv' := fun v => [(2, .int v), (0, .ref u0), (1, .int u1)]) (fun _ => rfl) (fun z1 ls ez1 mz1 iz1 hl => ?_)
        refine lv_goto (tgt := 7) hx hb dX11_writes_72 (by decide) ?_
        exact ih7 ls f_69 H locs z1 g69_u0_31 (show 8 - z1.toInt < _ by omega) (lv_cons hl 1 rfl (lv_cons hl 2 rfl (lv_cons hl 0 rfl (lv_nil hl)))) h t_69 o_69 (iv_w iz1 (by decide)) ig69_u0_31 k69_u0_31 (show g69_u0_31.toInt ≤ 5 * z1.toInt by omega)
      refine lv_iload_n hx hb dX11_writes_7 rfl (lv_at hl 2 rfl) ?_
      refine lv_bipush (v := 8) hx hb dX11_writes_8 (by decide) ?_
      refine lv_icmp_ge (tgt := 75) hx hb dX11_writes_10 (by decide) (fun c2 => ?_) (fun c2 => ?_)
      · have c3 : 8 ≤ v7_2.toInt := Int32.le_iff_toInt_le.mp c2
        have i4 : iv v7_2 8 8 := iv_Er c3 (iv_k (x := 8) (k := 8) rfl) iv7_2 (by decide)
        refine lv_aload_n hx hb dX11_writes_75 rfl (lv_at hl 0 rfl) ?_
        refine lv_iload_n hx hb dX11_writes_76 rfl (lv_at hl 1 rfl) ?_
        refine lv_bipush (v := 8) hx hb dX11_writes_77 (by decide) ?_
        obtain ⟨_, r7⟩ := t_rec t_7 hu0 (by decide) wf_60
        refine k_i (r_V C h hl (As := [.int u1, .int 8]) (rest := []) (s_X11_weightOf l D G b0 τ f_7 t_7 u0 hu0 u1 hu1 8 (iv_w (iv_k (x := 8) (k := 8) rfl) (by decide))) r7 (Cn := RX11) (T := TX11) (N := 32) rfl rfl mk_X11_weightOf w_1631 w_1633 w_52 w_1634 ⟨Nat.le_of_ble_eq_true rfl, Nat.le_of_ble_eq_true rfl⟩ rfl (Nat.le_of_ble_eq_true rfl) ⟨Nat.le_of_ble_eq_true rfl, Nat.le_of_ble_eq_true rfl⟩ rfl dX11_writes_79) h (fun r8 f9 H locs p10 h => ?_)
        obtain ⟨ir8, tf9, ogf9⟩ := p10
        have egf9 := Fr.nil2 ogf9
        subst egf9
        refine lv_aload_n hx hb dX11_writes_82 rfl (lv_at hl 0 rfl) ?_
        refine lv_iload_n hx hb dX11_writes_83 rfl (lv_at hl 1 rfl) ?_
        refine lv_bipush (v := 9) hx hb dX11_writes_84 (by decide) ?_
        obtain ⟨_, r11⟩ := t_rec t_7 hu0 (by decide) wf_60
        refine k_i (r_V C h hl (As := [.int u1, .int 9]) (rest := [.int r8]) (s_X11_weightOf l D G b0 τ f_7 t_7 u0 hu0 u1 hu1 9 (iv_w (iv_k (x := 9) (k := 9) rfl) (by decide))) r11 (Cn := RX11) (T := TX11) (N := 32) rfl rfl mk_X11_weightOf w_1631 w_1633 w_52 w_1634 ⟨Nat.le_of_ble_eq_true rfl, Nat.le_of_ble_eq_true rfl⟩ rfl (Nat.le_of_ble_eq_true rfl) ⟨Nat.le_of_ble_eq_true rfl, Nat.le_of_ble_eq_true rfl⟩ rfl dX11_writes_86) h (fun r12 f13 H locs p14 h => ?_)
        obtain ⟨ir12, tf13, ogf13⟩ := p14
        have egf13 := Fr.nil2 ogf13
        subst egf13
        refine i_add hx hb dX11_writes_89 ir8 ir12 (lo := 0) (hi := 18) (by decide) (fun z15 ez15 mz15 iz15 => ?_)
        refine lv_if_ne (tgt := 94) hx hb dX11_writes_90 (by decide) (fun c16 => ?_) (fun c16 => ?_)
        · have c17 : z15.toInt ≠ 0 := fun z_ => c16 (Int32.toInt_inj.mp z_)
          have i18 : iv z15 1 18 := iv_Nl c17 iz15 (by decide)
          refine lv_aload_n hx hb dX11_writes_94 rfl (lv_at hl 0 rfl) ?_
          refine ldcSw hx hb hown (hE0.2.2.2.2.2.2.2.2.1 ("QuarterWalksModel", 432, "; from ", 10) (by decide)) dX11_writes_95 ?_
          obtain ⟨_, r21⟩ := t_rec t_7 hu0 (by decide) wf_60
          refine k_v (r_V C h hl (As := [.ref (G (20 + 10))]) (rest := []) (s_X11_saysX10 l D G b0 τ f_7 t_7 u0 hu0 g7_u0_31 (iv_w ig7_u0_31 (by decide)) k7_u0_31) r21 (Cn := RX11) (T := TX11) (N := 32) rfl rfl mk_X11_says w_2006 w_2008 w_89 w_2009 ⟨Nat.le_of_ble_eq_true rfl, Nat.le_of_ble_eq_true rfl⟩ rfl (Nat.le_of_ble_eq_true rfl) ⟨Nat.le_of_ble_eq_true rfl, Nat.le_of_ble_eq_true rfl⟩ rfl dX11_writes_98) h (fun f23 H locs p24 h => ?_)
          obtain ⟨tf23, ogf23, ⟨sy1_f23, kpu0_31f23, ipu0_31f23, rpu0_31f23⟩⟩ := p24
          have of23 : Fr [60, 77, 60032] τ f f23 := Fr.tr o_7 ogf23 (by decide) (by decide)
          refine lv_aload_n hx hb dX11_writes_101 rfl (lv_at hl 0 rfl) ?_
          refine lv_aload_n hx hb dX11_writes_102 rfl (lv_at hl 0 rfl) ?_
          refine lv_iload_n hx hb dX11_writes_103 rfl (lv_at hl 1 rfl) ?_
          refine lv_bipush (v := 8) hx hb dX11_writes_104 (by decide) ?_
          obtain ⟨_, r25⟩ := t_rec tf23 hu0 (by decide) wf_60
          refine k_i (r_V C h hl (As := [.int u1, .int 8]) (rest := [.ref u0]) (s_X11_weightOf l D G b0 τ f23 tf23 u0 hu0 u1 hu1 8 (iv_w (iv_k (x := 8) (k := 8) rfl) (by decide))) r25 (Cn := RX11) (T := TX11) (N := 32) rfl rfl mk_X11_weightOf w_1631 w_1633 w_52 w_1634 ⟨Nat.le_of_ble_eq_true rfl, Nat.le_of_ble_eq_true rfl⟩ rfl (Nat.le_of_ble_eq_true rfl) ⟨Nat.le_of_ble_eq_true rfl, Nat.le_of_ble_eq_true rfl⟩ rfl dX11_writes_106) h (fun r26 f27 H locs p28 h => ?_)
          obtain ⟨ir26, tf27, ogf27⟩ := p28
          have egf27 := Fr.nil2 ogf27
          subst egf27
          obtain ⟨_, r29⟩ := t_rec tf23 hu0 (by decide) wf_60
          refine k_v (r_V C h hl (As := [.int r26]) (rest := []) (s_X11_saysDigitX l D G b0 τ f23 tf23 u0 hu0 r26 ir26 sy1_f23 (show iv sy1_f23 0 79 from by omega) kpu0_31f23) r29 (Cn := RX11) (T := TX11) (N := 32) rfl rfl mk_X11_saysDigit w_2013 w_2015 w_90 w_2016 ⟨Nat.le_of_ble_eq_true rfl, Nat.le_of_ble_eq_true rfl⟩ rfl (Nat.le_of_ble_eq_true rfl) ⟨Nat.le_of_ble_eq_true rfl, Nat.le_of_ble_eq_true rfl⟩ rfl dX11_writes_109) h (fun f31 H locs p32 h => ?_)
          obtain ⟨tf31, ogf31, ⟨sy1_f31, kpu0_31f31, ipu0_31f31, rpu0_31f31⟩⟩ := p32
          have of31 : Fr [60, 77, 60032] τ f f31 := Fr.tr of23 ogf31 (by decide) (by decide)
          refine lv_aload_n hx hb dX11_writes_112 rfl (lv_at hl 0 rfl) ?_
          refine ldcSw hx hb hown (hE0.2.2.2.2.2.2.2.2.1 ("QuarterWalksModel", 420, " ", 9) (by decide)) dX11_writes_113 ?_
          obtain ⟨_, r33⟩ := t_rec tf31 hu0 (by decide) wf_60
          refine k_v (r_V C h hl (As := [.ref (G (20 + 9))]) (rest := []) (s_X11_saysX9 l D G b0 τ f31 tf31 u0 hu0 sy1_f31 (show iv sy1_f31 0 79 from by omega) kpu0_31f31) r33 (Cn := RX11) (T := TX11) (N := 32) rfl rfl mk_X11_says w_2006 w_2008 w_89 w_2009 ⟨Nat.le_of_ble_eq_true rfl, Nat.le_of_ble_eq_true rfl⟩ rfl (Nat.le_of_ble_eq_true rfl) ⟨Nat.le_of_ble_eq_true rfl, Nat.le_of_ble_eq_true rfl⟩ rfl dX11_writes_116) h (fun f35 H locs p36 h => ?_)
          obtain ⟨tf35, ogf35, ⟨sy1_f35, kpu0_31f35, ipu0_31f35, rpu0_31f35⟩⟩ := p36
          have of35 : Fr [60, 77, 60032] τ f f35 := Fr.tr of31 ogf35 (by decide) (by decide)
          refine lv_aload_n hx hb dX11_writes_119 rfl (lv_at hl 0 rfl) ?_
          refine lv_aload_n hx hb dX11_writes_120 rfl (lv_at hl 0 rfl) ?_
          refine lv_iload_n hx hb dX11_writes_121 rfl (lv_at hl 1 rfl) ?_
          refine lv_bipush (v := 9) hx hb dX11_writes_122 (by decide) ?_
          obtain ⟨_, r37⟩ := t_rec tf35 hu0 (by decide) wf_60
          refine k_i (r_V C h hl (As := [.int u1, .int 9]) (rest := [.ref u0]) (s_X11_weightOf l D G b0 τ f35 tf35 u0 hu0 u1 hu1 9 (iv_w (iv_k (x := 9) (k := 9) rfl) (by decide))) r37 (Cn := RX11) (T := TX11) (N := 32) rfl rfl mk_X11_weightOf w_1631 w_1633 w_52 w_1634 ⟨Nat.le_of_ble_eq_true rfl, Nat.le_of_ble_eq_true rfl⟩ rfl (Nat.le_of_ble_eq_true rfl) ⟨Nat.le_of_ble_eq_true rfl, Nat.le_of_ble_eq_true rfl⟩ rfl dX11_writes_124) h (fun r38 f39 H locs p40 h => ?_)
          obtain ⟨ir38, tf39, ogf39⟩ := p40
          have egf39 := Fr.nil2 ogf39
          subst egf39
          obtain ⟨_, r41⟩ := t_rec tf35 hu0 (by decide) wf_60
          refine k_v (r_V C h hl (As := [.int r38]) (rest := []) (s_X11_saysDigitX l D G b0 τ f35 tf35 u0 hu0 r38 ir38 sy1_f35 (show iv sy1_f35 0 79 from by omega) kpu0_31f35) r41 (Cn := RX11) (T := TX11) (N := 32) rfl rfl mk_X11_saysDigit w_2013 w_2015 w_90 w_2016 ⟨Nat.le_of_ble_eq_true rfl, Nat.le_of_ble_eq_true rfl⟩ rfl (Nat.le_of_ble_eq_true rfl) ⟨Nat.le_of_ble_eq_true rfl, Nat.le_of_ble_eq_true rfl⟩ rfl dX11_writes_127) h (fun f43 H locs p44 h => ?_)
          obtain ⟨tf43, ogf43, ⟨sy1_f43, kpu0_31f43, ipu0_31f43, rpu0_31f43⟩⟩ := p44
          have of43 : Fr [60, 77, 60032] τ f f43 := Fr.tr of35 ogf43 (by decide) (by decide)
          exact u_vret C h hr hQ (⟨tf43, of43, ⟨sy1_f43, kpu0_31f43, (show iv sy1_f43 0 60 from by omega), trivial⟩⟩) (Nat.le_of_ble_eq_true rfl) (Nat.le_of_ble_eq_true rfl) dX11_writes_130
        · have c19 : z15.toInt = 0 := congrArg Int32.toInt c16
          have i20 : iv z15 0 0 := iv_Q c19 iz15 (iv_k (x := 0) (k := 0) rfl) (by decide)
          exact u_vret C h hr hQ (⟨t_7, o_7, ⟨g7_u0_31, k7_u0_31, (iv_w ig7_u0_31 (by decide)), trivial⟩⟩) (Nat.le_of_ble_eq_true rfl) (Nat.le_of_ble_eq_true rfl) dX11_writes_93
      · have c5 : v7_2.toInt < 8 := Int32.lt_iff_toInt_lt.mp (iv_nle c2)
        have i6 : iv v7_2 0 7 := iv_Ll c5 iv7_2 (iv_k (x := 8) (k := 8) rfl) (by decide)
        refine lv_aload_n hx hb dX11_writes_13 rfl (lv_at hl 0 rfl) ?_
        refine lv_iload_n hx hb dX11_writes_14 rfl (lv_at hl 1 rfl) ?_
        refine lv_iload_n hx hb dX11_writes_15 rfl (lv_at hl 2 rfl) ?_
        obtain ⟨_, r45⟩ := t_rec t_7 hu0 (by decide) wf_60
        refine k_i (r_V C h hl (As := [.int u1, .int v7_2]) (rest := []) (s_X11_weightOf l D G b0 τ f_7 t_7 u0 hu0 u1 hu1 v7_2 (iv_w i6 (by decide))) r45 (Cn := RX11) (T := TX11) (N := 32) rfl rfl mk_X11_weightOf w_1631 w_1633 w_52 w_1634 ⟨Nat.le_of_ble_eq_true rfl, Nat.le_of_ble_eq_true rfl⟩ rfl (Nat.le_of_ble_eq_true rfl) ⟨Nat.le_of_ble_eq_true rfl, Nat.le_of_ble_eq_true rfl⟩ rfl dX11_writes_16) h (fun r46 f47 H locs p48 h => ?_)
        obtain ⟨ir46, tf47, ogf47⟩ := p48
        have egf47 := Fr.nil2 ogf47
        subst egf47
        refine lv_istore_n (lv' := [(3, .int r46), (0, .ref u0), (1, .int u1), (2, .int v7_2)]) hx hb dX11_writes_19 rfl hl (by decide) rfl (fun ls hl => ?_)
        refine lv_iload_n hx hb dX11_writes_20 rfl (lv_at hl 0 rfl) ?_
        refine lv_if_ne (tgt := 27) hx hb dX11_writes_21 (by decide) (fun c49 => ?_) (fun c49 => ?_)
        · have c50 : r46.toInt ≠ 0 := fun z_ => c49 (Int32.toInt_inj.mp z_)
          have i51 : iv r46 1 9 := iv_Nl c50 ir46 (by decide)
          refine lv_aload_n hx hb dX11_writes_27 rfl (lv_at hl 1 rfl) ?_
          refine t_getfd C h t_7 hu0 (by decide) wf_60 (v := .int g7_u0_31) k7_u0_31 fl_X11_417 dX11_writes_28 ?_
          refine lv_if_le (tgt := 41) hx hb dX11_writes_31 (by decide) (fun c54 => ?_) (fun c54 => ?_)
          · have c55 : g7_u0_31.toInt ≤ 0 := Int32.le_iff_toInt_le.mp c54
            have i56 : iv g7_u0_31 0 0 := iv_El c55 ig7_u0_31 (iv_k (x := 0) (k := 0) rfl) (by decide)
            refine lv_aload_n hx hb dX11_writes_41 rfl (lv_at hl 1 rfl) ?_
            refine lv_iload_n hx hb dX11_writes_42 rfl (lv_at hl 3 rfl) ?_
            rcases (by omega : v7_2.toInt = 0 ∨ v7_2.toInt = 1 ∨ v7_2.toInt = 2 ∨ v7_2.toInt = 3 ∨ v7_2.toInt = 4 ∨ v7_2.toInt = 5 ∨ v7_2.toInt = 6 ∨ v7_2.toInt = 7) with c59 | c59 | c59 | c59 | c59 | c59 | c59 | c59
            · refine k_q (r_S C h hl (As := [.int v7_2]) (rest := [.ref u0]) (c_nameOf0 l D G b0 f_7 v7_2 (Int32.toInt_inj.mp (by have n_ : (0 : Int32).toInt = 0 := rfl; omega))) mk_X11_nameOf w_2010 w_2011 w_2012 ⟨(Nat.le_of_ble_eq_true rfl), (Nat.le_of_ble_eq_true rfl)⟩ rfl (Nat.le_of_ble_eq_true rfl) ⟨(Nat.le_of_ble_eq_true rfl), (Nat.le_of_ble_eq_true rfl)⟩ rfl dX11_writes_43) h (fun r61 f60 H locs pf60 h => ?_)
              obtain ⟨rfl, rfl⟩ := pf60
              obtain ⟨_, r76⟩ := t_rec t_7 hu0 (by decide) wf_60
              refine k_v (r_V C h hl (As := [.ref (G (20 + 0))]) (rest := []) (s_X11_saysX0 l D G b0 τ f_7 t_7 u0 hu0 g7_u0_31 (iv_w i56 (by decide)) k7_u0_31) r76 (Cn := RX11) (T := TX11) (N := 32) rfl rfl mk_X11_says w_2006 w_2008 w_89 w_2009 ⟨Nat.le_of_ble_eq_true rfl, Nat.le_of_ble_eq_true rfl⟩ rfl (Nat.le_of_ble_eq_true rfl) ⟨Nat.le_of_ble_eq_true rfl, Nat.le_of_ble_eq_true rfl⟩ rfl dX11_writes_46) h (fun f78 H locs p79 h => ?_)
              obtain ⟨tf78, ogf78, ⟨sy1_f78, kpu0_31f78, ipu0_31f78, rpu0_31f78⟩⟩ := p79
              have of78 : Fr [60, 77, 60032] τ f f78 := Fr.tr o_7 ogf78 (by decide) (by decide)
              refine lv_iload_n hx hb dX11_writes_49 rfl (lv_at hl 0 rfl) ?_
              refine lv_iconst (v := 1) hx hb dX11_writes_50 (by decide) ?_
              refine lv_icmp_ne (tgt := 57) hx hb dX11_writes_51 (by decide) (fun c80 => ?_) (fun c80 => ?_)
              · have c81 : r46.toInt ≠ 1 := fun z_ => c80 (Int32.toInt_inj.mp z_)
                have i82 : iv r46 2 9 := iv_Nl c81 i51 (by decide)
                refine lv_aload_n hx hb dX11_writes_57 rfl (lv_at hl 1 rfl) ?_
                refine ldcSw hx hb hown (hE0.2.2.2.2.2.2.2.2.1 ("QuarterWalksModel", 420, " ", 9) (by decide)) dX11_writes_58 ?_
                obtain ⟨_, r85⟩ := t_rec tf78 hu0 (by decide) wf_60
                refine k_v (r_V C h hl (As := [.ref (G (20 + 9))]) (rest := []) (s_X11_saysX9 l D G b0 τ f78 tf78 u0 hu0 sy1_f78 (show iv sy1_f78 0 79 from by omega) kpu0_31f78) r85 (Cn := RX11) (T := TX11) (N := 32) rfl rfl mk_X11_says w_2006 w_2008 w_89 w_2009 ⟨Nat.le_of_ble_eq_true rfl, Nat.le_of_ble_eq_true rfl⟩ rfl (Nat.le_of_ble_eq_true rfl) ⟨Nat.le_of_ble_eq_true rfl, Nat.le_of_ble_eq_true rfl⟩ rfl dX11_writes_61) h (fun f87 H locs p88 h => ?_)
                obtain ⟨tf87, ogf87, ⟨sy1_f87, kpu0_31f87, ipu0_31f87, rpu0_31f87⟩⟩ := p88
                have of87 : Fr [60, 77, 60032] τ f f87 := Fr.tr of78 ogf87 (by decide) (by decide)
                refine lv_aload_n hx hb dX11_writes_64 rfl (lv_at hl 1 rfl) ?_
                refine lv_iload_n hx hb dX11_writes_65 rfl (lv_at hl 0 rfl) ?_
                obtain ⟨_, r89⟩ := t_rec tf87 hu0 (by decide) wf_60
                refine k_v (r_V C h hl (As := [.int r46]) (rest := []) (s_X11_saysDigitX l D G b0 τ f87 tf87 u0 hu0 r46 (iv_w i82 (by decide)) sy1_f87 (show iv sy1_f87 0 79 from by omega) kpu0_31f87) r89 (Cn := RX11) (T := TX11) (N := 32) rfl rfl mk_X11_saysDigit w_2013 w_2015 w_90 w_2016 ⟨Nat.le_of_ble_eq_true rfl, Nat.le_of_ble_eq_true rfl⟩ rfl (Nat.le_of_ble_eq_true rfl) ⟨Nat.le_of_ble_eq_true rfl, Nat.le_of_ble_eq_true rfl⟩ rfl dX11_writes_66) h (fun f91 H locs p92 h => ?_)
                obtain ⟨tf91, ogf91, ⟨sy1_f91, kpu0_31f91, ipu0_31f91, rpu0_31f91⟩⟩ := p92
                have of91 : Fr [60, 77, 60032] τ f f91 := Fr.tr of87 ogf91 (by decide) (by decide)
                exact L69 ls f91 H locs sy1_f91 (lv_cons hl 1 rfl (lv_cons hl 2 rfl (lv_cons hl 3 rfl (lv_nil hl)))) h tf91 of91 i6 (show iv sy1_f91 0 40 from by omega) kpu0_31f91 (show sy1_f91.toInt ≤ 5 * v7_2.toInt + 5 by omega)
              · have c83 : r46.toInt = 1 := congrArg Int32.toInt c80
                have i84 : iv r46 1 1 := iv_Q c83 i51 (iv_k (x := 1) (k := 1) rfl) (by decide)
                refine lv_goto (tgt := 69) hx hb dX11_writes_54 (by decide) ?_
                exact L69 ls f78 H locs sy1_f78 (lv_cons hl 1 rfl (lv_cons hl 2 rfl (lv_cons hl 3 rfl (lv_nil hl)))) h tf78 of78 i6 (show iv sy1_f78 0 40 from by omega) kpu0_31f78 (show sy1_f78.toInt ≤ 5 * v7_2.toInt + 5 by omega)
            · refine k_q (r_S C h hl (As := [.int v7_2]) (rest := [.ref u0]) (c_nameOf1 l D G b0 f_7 v7_2 (Int32.toInt_inj.mp (by have n_ : (1 : Int32).toInt = 1 := rfl; omega))) mk_X11_nameOf w_2010 w_2011 w_2012 ⟨(Nat.le_of_ble_eq_true rfl), (Nat.le_of_ble_eq_true rfl)⟩ rfl (Nat.le_of_ble_eq_true rfl) ⟨(Nat.le_of_ble_eq_true rfl), (Nat.le_of_ble_eq_true rfl)⟩ rfl dX11_writes_43) h (fun r63 f62 H locs pf62 h => ?_)
              obtain ⟨rfl, rfl⟩ := pf62
              obtain ⟨_, r93⟩ := t_rec t_7 hu0 (by decide) wf_60
              refine k_v (r_V C h hl (As := [.ref (G (20 + 1))]) (rest := []) (s_X11_saysX1 l D G b0 τ f_7 t_7 u0 hu0 g7_u0_31 (iv_w i56 (by decide)) k7_u0_31) r93 (Cn := RX11) (T := TX11) (N := 32) rfl rfl mk_X11_says w_2006 w_2008 w_89 w_2009 ⟨Nat.le_of_ble_eq_true rfl, Nat.le_of_ble_eq_true rfl⟩ rfl (Nat.le_of_ble_eq_true rfl) ⟨Nat.le_of_ble_eq_true rfl, Nat.le_of_ble_eq_true rfl⟩ rfl dX11_writes_46) h (fun f95 H locs p96 h => ?_)
              obtain ⟨tf95, ogf95, ⟨sy1_f95, kpu0_31f95, ipu0_31f95, rpu0_31f95⟩⟩ := p96
              have of95 : Fr [60, 77, 60032] τ f f95 := Fr.tr o_7 ogf95 (by decide) (by decide)
              refine lv_iload_n hx hb dX11_writes_49 rfl (lv_at hl 0 rfl) ?_
              refine lv_iconst (v := 1) hx hb dX11_writes_50 (by decide) ?_
              refine lv_icmp_ne (tgt := 57) hx hb dX11_writes_51 (by decide) (fun c97 => ?_) (fun c97 => ?_)
              · have c98 : r46.toInt ≠ 1 := fun z_ => c97 (Int32.toInt_inj.mp z_)
                have i99 : iv r46 2 9 := iv_Nl c98 i51 (by decide)
                refine lv_aload_n hx hb dX11_writes_57 rfl (lv_at hl 1 rfl) ?_
                refine ldcSw hx hb hown (hE0.2.2.2.2.2.2.2.2.1 ("QuarterWalksModel", 420, " ", 9) (by decide)) dX11_writes_58 ?_
                obtain ⟨_, r102⟩ := t_rec tf95 hu0 (by decide) wf_60
                refine k_v (r_V C h hl (As := [.ref (G (20 + 9))]) (rest := []) (s_X11_saysX9 l D G b0 τ f95 tf95 u0 hu0 sy1_f95 (show iv sy1_f95 0 79 from by omega) kpu0_31f95) r102 (Cn := RX11) (T := TX11) (N := 32) rfl rfl mk_X11_says w_2006 w_2008 w_89 w_2009 ⟨Nat.le_of_ble_eq_true rfl, Nat.le_of_ble_eq_true rfl⟩ rfl (Nat.le_of_ble_eq_true rfl) ⟨Nat.le_of_ble_eq_true rfl, Nat.le_of_ble_eq_true rfl⟩ rfl dX11_writes_61) h (fun f104 H locs p105 h => ?_)
                obtain ⟨tf104, ogf104, ⟨sy1_f104, kpu0_31f104, ipu0_31f104, rpu0_31f104⟩⟩ := p105
                have of104 : Fr [60, 77, 60032] τ f f104 := Fr.tr of95 ogf104 (by decide) (by decide)
                refine lv_aload_n hx hb dX11_writes_64 rfl (lv_at hl 1 rfl) ?_
                refine lv_iload_n hx hb dX11_writes_65 rfl (lv_at hl 0 rfl) ?_
                obtain ⟨_, r106⟩ := t_rec tf104 hu0 (by decide) wf_60
                refine k_v (r_V C h hl (As := [.int r46]) (rest := []) (s_X11_saysDigitX l D G b0 τ f104 tf104 u0 hu0 r46 (iv_w i99 (by decide)) sy1_f104 (show iv sy1_f104 0 79 from by omega) kpu0_31f104) r106 (Cn := RX11) (T := TX11) (N := 32) rfl rfl mk_X11_saysDigit w_2013 w_2015 w_90 w_2016 ⟨Nat.le_of_ble_eq_true rfl, Nat.le_of_ble_eq_true rfl⟩ rfl (Nat.le_of_ble_eq_true rfl) ⟨Nat.le_of_ble_eq_true rfl, Nat.le_of_ble_eq_true rfl⟩ rfl dX11_writes_66) h (fun f108 H locs p109 h => ?_)
                obtain ⟨tf108, ogf108, ⟨sy1_f108, kpu0_31f108, ipu0_31f108, rpu0_31f108⟩⟩ := p109
                have of108 : Fr [60, 77, 60032] τ f f108 := Fr.tr of104 ogf108 (by decide) (by decide)
                exact L69 ls f108 H locs sy1_f108 (lv_cons hl 1 rfl (lv_cons hl 2 rfl (lv_cons hl 3 rfl (lv_nil hl)))) h tf108 of108 i6 (show iv sy1_f108 0 40 from by omega) kpu0_31f108 (show sy1_f108.toInt ≤ 5 * v7_2.toInt + 5 by omega)
              · have c100 : r46.toInt = 1 := congrArg Int32.toInt c97
                have i101 : iv r46 1 1 := iv_Q c100 i51 (iv_k (x := 1) (k := 1) rfl) (by decide)
                refine lv_goto (tgt := 69) hx hb dX11_writes_54 (by decide) ?_
                exact L69 ls f95 H locs sy1_f95 (lv_cons hl 1 rfl (lv_cons hl 2 rfl (lv_cons hl 3 rfl (lv_nil hl)))) h tf95 of95 i6 (show iv sy1_f95 0 40 from by omega) kpu0_31f95 (show sy1_f95.toInt ≤ 5 * v7_2.toInt + 5 by omega)
            · refine k_q (r_S C h hl (As := [.int v7_2]) (rest := [.ref u0]) (c_nameOf2 l D G b0 f_7 v7_2 (Int32.toInt_inj.mp (by have n_ : (2 : Int32).toInt = 2 := rfl; omega))) mk_X11_nameOf w_2010 w_2011 w_2012 ⟨(Nat.le_of_ble_eq_true rfl), (Nat.le_of_ble_eq_true rfl)⟩ rfl (Nat.le_of_ble_eq_true rfl) ⟨(Nat.le_of_ble_eq_true rfl), (Nat.le_of_ble_eq_true rfl)⟩ rfl dX11_writes_43) h (fun r65 f64 H locs pf64 h => ?_)
              obtain ⟨rfl, rfl⟩ := pf64
              obtain ⟨_, r110⟩ := t_rec t_7 hu0 (by decide) wf_60
              refine k_v (r_V C h hl (As := [.ref (G (20 + 2))]) (rest := []) (s_X11_saysX2 l D G b0 τ f_7 t_7 u0 hu0 g7_u0_31 (iv_w i56 (by decide)) k7_u0_31) r110 (Cn := RX11) (T := TX11) (N := 32) rfl rfl mk_X11_says w_2006 w_2008 w_89 w_2009 ⟨Nat.le_of_ble_eq_true rfl, Nat.le_of_ble_eq_true rfl⟩ rfl (Nat.le_of_ble_eq_true rfl) ⟨Nat.le_of_ble_eq_true rfl, Nat.le_of_ble_eq_true rfl⟩ rfl dX11_writes_46) h (fun f112 H locs p113 h => ?_)
              obtain ⟨tf112, ogf112, ⟨sy1_f112, kpu0_31f112, ipu0_31f112, rpu0_31f112⟩⟩ := p113
              have of112 : Fr [60, 77, 60032] τ f f112 := Fr.tr o_7 ogf112 (by decide) (by decide)
              refine lv_iload_n hx hb dX11_writes_49 rfl (lv_at hl 0 rfl) ?_
              refine lv_iconst (v := 1) hx hb dX11_writes_50 (by decide) ?_
              refine lv_icmp_ne (tgt := 57) hx hb dX11_writes_51 (by decide) (fun c114 => ?_) (fun c114 => ?_)
              · have c115 : r46.toInt ≠ 1 := fun z_ => c114 (Int32.toInt_inj.mp z_)
                have i116 : iv r46 2 9 := iv_Nl c115 i51 (by decide)
                refine lv_aload_n hx hb dX11_writes_57 rfl (lv_at hl 1 rfl) ?_
                refine ldcSw hx hb hown (hE0.2.2.2.2.2.2.2.2.1 ("QuarterWalksModel", 420, " ", 9) (by decide)) dX11_writes_58 ?_
                obtain ⟨_, r119⟩ := t_rec tf112 hu0 (by decide) wf_60
                refine k_v (r_V C h hl (As := [.ref (G (20 + 9))]) (rest := []) (s_X11_saysX9 l D G b0 τ f112 tf112 u0 hu0 sy1_f112 (show iv sy1_f112 0 79 from by omega) kpu0_31f112) r119 (Cn := RX11) (T := TX11) (N := 32) rfl rfl mk_X11_says w_2006 w_2008 w_89 w_2009 ⟨Nat.le_of_ble_eq_true rfl, Nat.le_of_ble_eq_true rfl⟩ rfl (Nat.le_of_ble_eq_true rfl) ⟨Nat.le_of_ble_eq_true rfl, Nat.le_of_ble_eq_true rfl⟩ rfl dX11_writes_61) h (fun f121 H locs p122 h => ?_)
                obtain ⟨tf121, ogf121, ⟨sy1_f121, kpu0_31f121, ipu0_31f121, rpu0_31f121⟩⟩ := p122
                have of121 : Fr [60, 77, 60032] τ f f121 := Fr.tr of112 ogf121 (by decide) (by decide)
                refine lv_aload_n hx hb dX11_writes_64 rfl (lv_at hl 1 rfl) ?_
                refine lv_iload_n hx hb dX11_writes_65 rfl (lv_at hl 0 rfl) ?_
                obtain ⟨_, r123⟩ := t_rec tf121 hu0 (by decide) wf_60
                refine k_v (r_V C h hl (As := [.int r46]) (rest := []) (s_X11_saysDigitX l D G b0 τ f121 tf121 u0 hu0 r46 (iv_w i116 (by decide)) sy1_f121 (show iv sy1_f121 0 79 from by omega) kpu0_31f121) r123 (Cn := RX11) (T := TX11) (N := 32) rfl rfl mk_X11_saysDigit w_2013 w_2015 w_90 w_2016 ⟨Nat.le_of_ble_eq_true rfl, Nat.le_of_ble_eq_true rfl⟩ rfl (Nat.le_of_ble_eq_true rfl) ⟨Nat.le_of_ble_eq_true rfl, Nat.le_of_ble_eq_true rfl⟩ rfl dX11_writes_66) h (fun f125 H locs p126 h => ?_)
                obtain ⟨tf125, ogf125, ⟨sy1_f125, kpu0_31f125, ipu0_31f125, rpu0_31f125⟩⟩ := p126
                have of125 : Fr [60, 77, 60032] τ f f125 := Fr.tr of121 ogf125 (by decide) (by decide)
                exact L69 ls f125 H locs sy1_f125 (lv_cons hl 1 rfl (lv_cons hl 2 rfl (lv_cons hl 3 rfl (lv_nil hl)))) h tf125 of125 i6 (show iv sy1_f125 0 40 from by omega) kpu0_31f125 (show sy1_f125.toInt ≤ 5 * v7_2.toInt + 5 by omega)
              · have c117 : r46.toInt = 1 := congrArg Int32.toInt c114
                have i118 : iv r46 1 1 := iv_Q c117 i51 (iv_k (x := 1) (k := 1) rfl) (by decide)
                refine lv_goto (tgt := 69) hx hb dX11_writes_54 (by decide) ?_
                exact L69 ls f112 H locs sy1_f112 (lv_cons hl 1 rfl (lv_cons hl 2 rfl (lv_cons hl 3 rfl (lv_nil hl)))) h tf112 of112 i6 (show iv sy1_f112 0 40 from by omega) kpu0_31f112 (show sy1_f112.toInt ≤ 5 * v7_2.toInt + 5 by omega)
            · refine k_q (r_S C h hl (As := [.int v7_2]) (rest := [.ref u0]) (c_nameOf3 l D G b0 f_7 v7_2 (Int32.toInt_inj.mp (by have n_ : (3 : Int32).toInt = 3 := rfl; omega))) mk_X11_nameOf w_2010 w_2011 w_2012 ⟨(Nat.le_of_ble_eq_true rfl), (Nat.le_of_ble_eq_true rfl)⟩ rfl (Nat.le_of_ble_eq_true rfl) ⟨(Nat.le_of_ble_eq_true rfl), (Nat.le_of_ble_eq_true rfl)⟩ rfl dX11_writes_43) h (fun r67 f66 H locs pf66 h => ?_)
              obtain ⟨rfl, rfl⟩ := pf66
              obtain ⟨_, r127⟩ := t_rec t_7 hu0 (by decide) wf_60
              refine k_v (r_V C h hl (As := [.ref (G (20 + 3))]) (rest := []) (s_X11_saysX3 l D G b0 τ f_7 t_7 u0 hu0 g7_u0_31 (iv_w i56 (by decide)) k7_u0_31) r127 (Cn := RX11) (T := TX11) (N := 32) rfl rfl mk_X11_says w_2006 w_2008 w_89 w_2009 ⟨Nat.le_of_ble_eq_true rfl, Nat.le_of_ble_eq_true rfl⟩ rfl (Nat.le_of_ble_eq_true rfl) ⟨Nat.le_of_ble_eq_true rfl, Nat.le_of_ble_eq_true rfl⟩ rfl dX11_writes_46) h (fun f129 H locs p130 h => ?_)
              obtain ⟨tf129, ogf129, ⟨sy1_f129, kpu0_31f129, ipu0_31f129, rpu0_31f129⟩⟩ := p130
              have of129 : Fr [60, 77, 60032] τ f f129 := Fr.tr o_7 ogf129 (by decide) (by decide)
              refine lv_iload_n hx hb dX11_writes_49 rfl (lv_at hl 0 rfl) ?_
              refine lv_iconst (v := 1) hx hb dX11_writes_50 (by decide) ?_
              refine lv_icmp_ne (tgt := 57) hx hb dX11_writes_51 (by decide) (fun c131 => ?_) (fun c131 => ?_)
              · have c132 : r46.toInt ≠ 1 := fun z_ => c131 (Int32.toInt_inj.mp z_)
                have i133 : iv r46 2 9 := iv_Nl c132 i51 (by decide)
                refine lv_aload_n hx hb dX11_writes_57 rfl (lv_at hl 1 rfl) ?_
                refine ldcSw hx hb hown (hE0.2.2.2.2.2.2.2.2.1 ("QuarterWalksModel", 420, " ", 9) (by decide)) dX11_writes_58 ?_
                obtain ⟨_, r136⟩ := t_rec tf129 hu0 (by decide) wf_60
                refine k_v (r_V C h hl (As := [.ref (G (20 + 9))]) (rest := []) (s_X11_saysX9 l D G b0 τ f129 tf129 u0 hu0 sy1_f129 (show iv sy1_f129 0 79 from by omega) kpu0_31f129) r136 (Cn := RX11) (T := TX11) (N := 32) rfl rfl mk_X11_says w_2006 w_2008 w_89 w_2009 ⟨Nat.le_of_ble_eq_true rfl, Nat.le_of_ble_eq_true rfl⟩ rfl (Nat.le_of_ble_eq_true rfl) ⟨Nat.le_of_ble_eq_true rfl, Nat.le_of_ble_eq_true rfl⟩ rfl dX11_writes_61) h (fun f138 H locs p139 h => ?_)
                obtain ⟨tf138, ogf138, ⟨sy1_f138, kpu0_31f138, ipu0_31f138, rpu0_31f138⟩⟩ := p139
                have of138 : Fr [60, 77, 60032] τ f f138 := Fr.tr of129 ogf138 (by decide) (by decide)
                refine lv_aload_n hx hb dX11_writes_64 rfl (lv_at hl 1 rfl) ?_
                refine lv_iload_n hx hb dX11_writes_65 rfl (lv_at hl 0 rfl) ?_
                obtain ⟨_, r140⟩ := t_rec tf138 hu0 (by decide) wf_60
                refine k_v (r_V C h hl (As := [.int r46]) (rest := []) (s_X11_saysDigitX l D G b0 τ f138 tf138 u0 hu0 r46 (iv_w i133 (by decide)) sy1_f138 (show iv sy1_f138 0 79 from by omega) kpu0_31f138) r140 (Cn := RX11) (T := TX11) (N := 32) rfl rfl mk_X11_saysDigit w_2013 w_2015 w_90 w_2016 ⟨Nat.le_of_ble_eq_true rfl, Nat.le_of_ble_eq_true rfl⟩ rfl (Nat.le_of_ble_eq_true rfl) ⟨Nat.le_of_ble_eq_true rfl, Nat.le_of_ble_eq_true rfl⟩ rfl dX11_writes_66) h (fun f142 H locs p143 h => ?_)
                obtain ⟨tf142, ogf142, ⟨sy1_f142, kpu0_31f142, ipu0_31f142, rpu0_31f142⟩⟩ := p143
                have of142 : Fr [60, 77, 60032] τ f f142 := Fr.tr of138 ogf142 (by decide) (by decide)
                exact L69 ls f142 H locs sy1_f142 (lv_cons hl 1 rfl (lv_cons hl 2 rfl (lv_cons hl 3 rfl (lv_nil hl)))) h tf142 of142 i6 (show iv sy1_f142 0 40 from by omega) kpu0_31f142 (show sy1_f142.toInt ≤ 5 * v7_2.toInt + 5 by omega)
              · have c134 : r46.toInt = 1 := congrArg Int32.toInt c131
                have i135 : iv r46 1 1 := iv_Q c134 i51 (iv_k (x := 1) (k := 1) rfl) (by decide)
                refine lv_goto (tgt := 69) hx hb dX11_writes_54 (by decide) ?_
                exact L69 ls f129 H locs sy1_f129 (lv_cons hl 1 rfl (lv_cons hl 2 rfl (lv_cons hl 3 rfl (lv_nil hl)))) h tf129 of129 i6 (show iv sy1_f129 0 40 from by omega) kpu0_31f129 (show sy1_f129.toInt ≤ 5 * v7_2.toInt + 5 by omega)
            · refine k_q (r_S C h hl (As := [.int v7_2]) (rest := [.ref u0]) (c_nameOf4 l D G b0 f_7 v7_2 (Int32.toInt_inj.mp (by have n_ : (4 : Int32).toInt = 4 := rfl; omega))) mk_X11_nameOf w_2010 w_2011 w_2012 ⟨(Nat.le_of_ble_eq_true rfl), (Nat.le_of_ble_eq_true rfl)⟩ rfl (Nat.le_of_ble_eq_true rfl) ⟨(Nat.le_of_ble_eq_true rfl), (Nat.le_of_ble_eq_true rfl)⟩ rfl dX11_writes_43) h (fun r69 f68 H locs pf68 h => ?_)
              obtain ⟨rfl, rfl⟩ := pf68
              obtain ⟨_, r144⟩ := t_rec t_7 hu0 (by decide) wf_60
              refine k_v (r_V C h hl (As := [.ref (G (20 + 4))]) (rest := []) (s_X11_saysX4 l D G b0 τ f_7 t_7 u0 hu0 g7_u0_31 (iv_w i56 (by decide)) k7_u0_31) r144 (Cn := RX11) (T := TX11) (N := 32) rfl rfl mk_X11_says w_2006 w_2008 w_89 w_2009 ⟨Nat.le_of_ble_eq_true rfl, Nat.le_of_ble_eq_true rfl⟩ rfl (Nat.le_of_ble_eq_true rfl) ⟨Nat.le_of_ble_eq_true rfl, Nat.le_of_ble_eq_true rfl⟩ rfl dX11_writes_46) h (fun f146 H locs p147 h => ?_)
              obtain ⟨tf146, ogf146, ⟨sy1_f146, kpu0_31f146, ipu0_31f146, rpu0_31f146⟩⟩ := p147
              have of146 : Fr [60, 77, 60032] τ f f146 := Fr.tr o_7 ogf146 (by decide) (by decide)
              refine lv_iload_n hx hb dX11_writes_49 rfl (lv_at hl 0 rfl) ?_
              refine lv_iconst (v := 1) hx hb dX11_writes_50 (by decide) ?_
              refine lv_icmp_ne (tgt := 57) hx hb dX11_writes_51 (by decide) (fun c148 => ?_) (fun c148 => ?_)
              · have c149 : r46.toInt ≠ 1 := fun z_ => c148 (Int32.toInt_inj.mp z_)
                have i150 : iv r46 2 9 := iv_Nl c149 i51 (by decide)
                refine lv_aload_n hx hb dX11_writes_57 rfl (lv_at hl 1 rfl) ?_
                refine ldcSw hx hb hown (hE0.2.2.2.2.2.2.2.2.1 ("QuarterWalksModel", 420, " ", 9) (by decide)) dX11_writes_58 ?_
                obtain ⟨_, r153⟩ := t_rec tf146 hu0 (by decide) wf_60
                refine k_v (r_V C h hl (As := [.ref (G (20 + 9))]) (rest := []) (s_X11_saysX9 l D G b0 τ f146 tf146 u0 hu0 sy1_f146 (show iv sy1_f146 0 79 from by omega) kpu0_31f146) r153 (Cn := RX11) (T := TX11) (N := 32) rfl rfl mk_X11_says w_2006 w_2008 w_89 w_2009 ⟨Nat.le_of_ble_eq_true rfl, Nat.le_of_ble_eq_true rfl⟩ rfl (Nat.le_of_ble_eq_true rfl) ⟨Nat.le_of_ble_eq_true rfl, Nat.le_of_ble_eq_true rfl⟩ rfl dX11_writes_61) h (fun f155 H locs p156 h => ?_)
                obtain ⟨tf155, ogf155, ⟨sy1_f155, kpu0_31f155, ipu0_31f155, rpu0_31f155⟩⟩ := p156
                have of155 : Fr [60, 77, 60032] τ f f155 := Fr.tr of146 ogf155 (by decide) (by decide)
                refine lv_aload_n hx hb dX11_writes_64 rfl (lv_at hl 1 rfl) ?_
                refine lv_iload_n hx hb dX11_writes_65 rfl (lv_at hl 0 rfl) ?_
                obtain ⟨_, r157⟩ := t_rec tf155 hu0 (by decide) wf_60
                refine k_v (r_V C h hl (As := [.int r46]) (rest := []) (s_X11_saysDigitX l D G b0 τ f155 tf155 u0 hu0 r46 (iv_w i150 (by decide)) sy1_f155 (show iv sy1_f155 0 79 from by omega) kpu0_31f155) r157 (Cn := RX11) (T := TX11) (N := 32) rfl rfl mk_X11_saysDigit w_2013 w_2015 w_90 w_2016 ⟨Nat.le_of_ble_eq_true rfl, Nat.le_of_ble_eq_true rfl⟩ rfl (Nat.le_of_ble_eq_true rfl) ⟨Nat.le_of_ble_eq_true rfl, Nat.le_of_ble_eq_true rfl⟩ rfl dX11_writes_66) h (fun f159 H locs p160 h => ?_)
                obtain ⟨tf159, ogf159, ⟨sy1_f159, kpu0_31f159, ipu0_31f159, rpu0_31f159⟩⟩ := p160
                have of159 : Fr [60, 77, 60032] τ f f159 := Fr.tr of155 ogf159 (by decide) (by decide)
                exact L69 ls f159 H locs sy1_f159 (lv_cons hl 1 rfl (lv_cons hl 2 rfl (lv_cons hl 3 rfl (lv_nil hl)))) h tf159 of159 i6 (show iv sy1_f159 0 40 from by omega) kpu0_31f159 (show sy1_f159.toInt ≤ 5 * v7_2.toInt + 5 by omega)
              · have c151 : r46.toInt = 1 := congrArg Int32.toInt c148
                have i152 : iv r46 1 1 := iv_Q c151 i51 (iv_k (x := 1) (k := 1) rfl) (by decide)
                refine lv_goto (tgt := 69) hx hb dX11_writes_54 (by decide) ?_
                exact L69 ls f146 H locs sy1_f146 (lv_cons hl 1 rfl (lv_cons hl 2 rfl (lv_cons hl 3 rfl (lv_nil hl)))) h tf146 of146 i6 (show iv sy1_f146 0 40 from by omega) kpu0_31f146 (show sy1_f146.toInt ≤ 5 * v7_2.toInt + 5 by omega)
            · refine k_q (r_S C h hl (As := [.int v7_2]) (rest := [.ref u0]) (c_nameOf5 l D G b0 f_7 v7_2 (Int32.toInt_inj.mp (by have n_ : (5 : Int32).toInt = 5 := rfl; omega))) mk_X11_nameOf w_2010 w_2011 w_2012 ⟨(Nat.le_of_ble_eq_true rfl), (Nat.le_of_ble_eq_true rfl)⟩ rfl (Nat.le_of_ble_eq_true rfl) ⟨(Nat.le_of_ble_eq_true rfl), (Nat.le_of_ble_eq_true rfl)⟩ rfl dX11_writes_43) h (fun r71 f70 H locs pf70 h => ?_)
              obtain ⟨rfl, rfl⟩ := pf70
              obtain ⟨_, r161⟩ := t_rec t_7 hu0 (by decide) wf_60
              refine k_v (r_V C h hl (As := [.ref (G (20 + 5))]) (rest := []) (s_X11_saysX5 l D G b0 τ f_7 t_7 u0 hu0 g7_u0_31 (iv_w i56 (by decide)) k7_u0_31) r161 (Cn := RX11) (T := TX11) (N := 32) rfl rfl mk_X11_says w_2006 w_2008 w_89 w_2009 ⟨Nat.le_of_ble_eq_true rfl, Nat.le_of_ble_eq_true rfl⟩ rfl (Nat.le_of_ble_eq_true rfl) ⟨Nat.le_of_ble_eq_true rfl, Nat.le_of_ble_eq_true rfl⟩ rfl dX11_writes_46) h (fun f163 H locs p164 h => ?_)
              obtain ⟨tf163, ogf163, ⟨sy1_f163, kpu0_31f163, ipu0_31f163, rpu0_31f163⟩⟩ := p164
              have of163 : Fr [60, 77, 60032] τ f f163 := Fr.tr o_7 ogf163 (by decide) (by decide)
              refine lv_iload_n hx hb dX11_writes_49 rfl (lv_at hl 0 rfl) ?_
              refine lv_iconst (v := 1) hx hb dX11_writes_50 (by decide) ?_
              refine lv_icmp_ne (tgt := 57) hx hb dX11_writes_51 (by decide) (fun c165 => ?_) (fun c165 => ?_)
              · have c166 : r46.toInt ≠ 1 := fun z_ => c165 (Int32.toInt_inj.mp z_)
                have i167 : iv r46 2 9 := iv_Nl c166 i51 (by decide)
                refine lv_aload_n hx hb dX11_writes_57 rfl (lv_at hl 1 rfl) ?_
                refine ldcSw hx hb hown (hE0.2.2.2.2.2.2.2.2.1 ("QuarterWalksModel", 420, " ", 9) (by decide)) dX11_writes_58 ?_
                obtain ⟨_, r170⟩ := t_rec tf163 hu0 (by decide) wf_60
                refine k_v (r_V C h hl (As := [.ref (G (20 + 9))]) (rest := []) (s_X11_saysX9 l D G b0 τ f163 tf163 u0 hu0 sy1_f163 (show iv sy1_f163 0 79 from by omega) kpu0_31f163) r170 (Cn := RX11) (T := TX11) (N := 32) rfl rfl mk_X11_says w_2006 w_2008 w_89 w_2009 ⟨Nat.le_of_ble_eq_true rfl, Nat.le_of_ble_eq_true rfl⟩ rfl (Nat.le_of_ble_eq_true rfl) ⟨Nat.le_of_ble_eq_true rfl, Nat.le_of_ble_eq_true rfl⟩ rfl dX11_writes_61) h (fun f172 H locs p173 h => ?_)
                obtain ⟨tf172, ogf172, ⟨sy1_f172, kpu0_31f172, ipu0_31f172, rpu0_31f172⟩⟩ := p173
                have of172 : Fr [60, 77, 60032] τ f f172 := Fr.tr of163 ogf172 (by decide) (by decide)
                refine lv_aload_n hx hb dX11_writes_64 rfl (lv_at hl 1 rfl) ?_
                refine lv_iload_n hx hb dX11_writes_65 rfl (lv_at hl 0 rfl) ?_
                obtain ⟨_, r174⟩ := t_rec tf172 hu0 (by decide) wf_60
                refine k_v (r_V C h hl (As := [.int r46]) (rest := []) (s_X11_saysDigitX l D G b0 τ f172 tf172 u0 hu0 r46 (iv_w i167 (by decide)) sy1_f172 (show iv sy1_f172 0 79 from by omega) kpu0_31f172) r174 (Cn := RX11) (T := TX11) (N := 32) rfl rfl mk_X11_saysDigit w_2013 w_2015 w_90 w_2016 ⟨Nat.le_of_ble_eq_true rfl, Nat.le_of_ble_eq_true rfl⟩ rfl (Nat.le_of_ble_eq_true rfl) ⟨Nat.le_of_ble_eq_true rfl, Nat.le_of_ble_eq_true rfl⟩ rfl dX11_writes_66) h (fun f176 H locs p177 h => ?_)
                obtain ⟨tf176, ogf176, ⟨sy1_f176, kpu0_31f176, ipu0_31f176, rpu0_31f176⟩⟩ := p177
                have of176 : Fr [60, 77, 60032] τ f f176 := Fr.tr of172 ogf176 (by decide) (by decide)
                exact L69 ls f176 H locs sy1_f176 (lv_cons hl 1 rfl (lv_cons hl 2 rfl (lv_cons hl 3 rfl (lv_nil hl)))) h tf176 of176 i6 (show iv sy1_f176 0 40 from by omega) kpu0_31f176 (show sy1_f176.toInt ≤ 5 * v7_2.toInt + 5 by omega)
              · have c168 : r46.toInt = 1 := congrArg Int32.toInt c165
                have i169 : iv r46 1 1 := iv_Q c168 i51 (iv_k (x := 1) (k := 1) rfl) (by decide)
                refine lv_goto (tgt := 69) hx hb dX11_writes_54 (by decide) ?_
                exact L69 ls f163 H locs sy1_f163 (lv_cons hl 1 rfl (lv_cons hl 2 rfl (lv_cons hl 3 rfl (lv_nil hl)))) h tf163 of163 i6 (show iv sy1_f163 0 40 from by omega) kpu0_31f163 (show sy1_f163.toInt ≤ 5 * v7_2.toInt + 5 by omega)
            · refine k_q (r_S C h hl (As := [.int v7_2]) (rest := [.ref u0]) (c_nameOf6 l D G b0 f_7 v7_2 (Int32.toInt_inj.mp (by have n_ : (6 : Int32).toInt = 6 := rfl; omega))) mk_X11_nameOf w_2010 w_2011 w_2012 ⟨(Nat.le_of_ble_eq_true rfl), (Nat.le_of_ble_eq_true rfl)⟩ rfl (Nat.le_of_ble_eq_true rfl) ⟨(Nat.le_of_ble_eq_true rfl), (Nat.le_of_ble_eq_true rfl)⟩ rfl dX11_writes_43) h (fun r73 f72 H locs pf72 h => ?_)
              obtain ⟨rfl, rfl⟩ := pf72
              obtain ⟨_, r178⟩ := t_rec t_7 hu0 (by decide) wf_60
              refine k_v (r_V C h hl (As := [.ref (G (20 + 6))]) (rest := []) (s_X11_saysX6 l D G b0 τ f_7 t_7 u0 hu0 g7_u0_31 (iv_w i56 (by decide)) k7_u0_31) r178 (Cn := RX11) (T := TX11) (N := 32) rfl rfl mk_X11_says w_2006 w_2008 w_89 w_2009 ⟨Nat.le_of_ble_eq_true rfl, Nat.le_of_ble_eq_true rfl⟩ rfl (Nat.le_of_ble_eq_true rfl) ⟨Nat.le_of_ble_eq_true rfl, Nat.le_of_ble_eq_true rfl⟩ rfl dX11_writes_46) h (fun f180 H locs p181 h => ?_)
              obtain ⟨tf180, ogf180, ⟨sy1_f180, kpu0_31f180, ipu0_31f180, rpu0_31f180⟩⟩ := p181
              have of180 : Fr [60, 77, 60032] τ f f180 := Fr.tr o_7 ogf180 (by decide) (by decide)
              refine lv_iload_n hx hb dX11_writes_49 rfl (lv_at hl 0 rfl) ?_
              refine lv_iconst (v := 1) hx hb dX11_writes_50 (by decide) ?_
              refine lv_icmp_ne (tgt := 57) hx hb dX11_writes_51 (by decide) (fun c182 => ?_) (fun c182 => ?_)
              · have c183 : r46.toInt ≠ 1 := fun z_ => c182 (Int32.toInt_inj.mp z_)
                have i184 : iv r46 2 9 := iv_Nl c183 i51 (by decide)
                refine lv_aload_n hx hb dX11_writes_57 rfl (lv_at hl 1 rfl) ?_
                refine ldcSw hx hb hown (hE0.2.2.2.2.2.2.2.2.1 ("QuarterWalksModel", 420, " ", 9) (by decide)) dX11_writes_58 ?_
                obtain ⟨_, r187⟩ := t_rec tf180 hu0 (by decide) wf_60
                refine k_v (r_V C h hl (As := [.ref (G (20 + 9))]) (rest := []) (s_X11_saysX9 l D G b0 τ f180 tf180 u0 hu0 sy1_f180 (show iv sy1_f180 0 79 from by omega) kpu0_31f180) r187 (Cn := RX11) (T := TX11) (N := 32) rfl rfl mk_X11_says w_2006 w_2008 w_89 w_2009 ⟨Nat.le_of_ble_eq_true rfl, Nat.le_of_ble_eq_true rfl⟩ rfl (Nat.le_of_ble_eq_true rfl) ⟨Nat.le_of_ble_eq_true rfl, Nat.le_of_ble_eq_true rfl⟩ rfl dX11_writes_61) h (fun f189 H locs p190 h => ?_)
                obtain ⟨tf189, ogf189, ⟨sy1_f189, kpu0_31f189, ipu0_31f189, rpu0_31f189⟩⟩ := p190
                have of189 : Fr [60, 77, 60032] τ f f189 := Fr.tr of180 ogf189 (by decide) (by decide)
                refine lv_aload_n hx hb dX11_writes_64 rfl (lv_at hl 1 rfl) ?_
                refine lv_iload_n hx hb dX11_writes_65 rfl (lv_at hl 0 rfl) ?_
                obtain ⟨_, r191⟩ := t_rec tf189 hu0 (by decide) wf_60
                refine k_v (r_V C h hl (As := [.int r46]) (rest := []) (s_X11_saysDigitX l D G b0 τ f189 tf189 u0 hu0 r46 (iv_w i184 (by decide)) sy1_f189 (show iv sy1_f189 0 79 from by omega) kpu0_31f189) r191 (Cn := RX11) (T := TX11) (N := 32) rfl rfl mk_X11_saysDigit w_2013 w_2015 w_90 w_2016 ⟨Nat.le_of_ble_eq_true rfl, Nat.le_of_ble_eq_true rfl⟩ rfl (Nat.le_of_ble_eq_true rfl) ⟨Nat.le_of_ble_eq_true rfl, Nat.le_of_ble_eq_true rfl⟩ rfl dX11_writes_66) h (fun f193 H locs p194 h => ?_)
                obtain ⟨tf193, ogf193, ⟨sy1_f193, kpu0_31f193, ipu0_31f193, rpu0_31f193⟩⟩ := p194
                have of193 : Fr [60, 77, 60032] τ f f193 := Fr.tr of189 ogf193 (by decide) (by decide)
                exact L69 ls f193 H locs sy1_f193 (lv_cons hl 1 rfl (lv_cons hl 2 rfl (lv_cons hl 3 rfl (lv_nil hl)))) h tf193 of193 i6 (show iv sy1_f193 0 40 from by omega) kpu0_31f193 (show sy1_f193.toInt ≤ 5 * v7_2.toInt + 5 by omega)
              · have c185 : r46.toInt = 1 := congrArg Int32.toInt c182
                have i186 : iv r46 1 1 := iv_Q c185 i51 (iv_k (x := 1) (k := 1) rfl) (by decide)
                refine lv_goto (tgt := 69) hx hb dX11_writes_54 (by decide) ?_
                exact L69 ls f180 H locs sy1_f180 (lv_cons hl 1 rfl (lv_cons hl 2 rfl (lv_cons hl 3 rfl (lv_nil hl)))) h tf180 of180 i6 (show iv sy1_f180 0 40 from by omega) kpu0_31f180 (show sy1_f180.toInt ≤ 5 * v7_2.toInt + 5 by omega)
            · refine k_q (r_S C h hl (As := [.int v7_2]) (rest := [.ref u0]) (c_nameOf7 l D G b0 f_7 v7_2 (Int32.toInt_inj.mp (by have n_ : (7 : Int32).toInt = 7 := rfl; omega))) mk_X11_nameOf w_2010 w_2011 w_2012 ⟨(Nat.le_of_ble_eq_true rfl), (Nat.le_of_ble_eq_true rfl)⟩ rfl (Nat.le_of_ble_eq_true rfl) ⟨(Nat.le_of_ble_eq_true rfl), (Nat.le_of_ble_eq_true rfl)⟩ rfl dX11_writes_43) h (fun r75 f74 H locs pf74 h => ?_)
              obtain ⟨rfl, rfl⟩ := pf74
              obtain ⟨_, r195⟩ := t_rec t_7 hu0 (by decide) wf_60
              refine k_v (r_V C h hl (As := [.ref (G (20 + 7))]) (rest := []) (s_X11_saysX7 l D G b0 τ f_7 t_7 u0 hu0 g7_u0_31 (iv_w i56 (by decide)) k7_u0_31) r195 (Cn := RX11) (T := TX11) (N := 32) rfl rfl mk_X11_says w_2006 w_2008 w_89 w_2009 ⟨Nat.le_of_ble_eq_true rfl, Nat.le_of_ble_eq_true rfl⟩ rfl (Nat.le_of_ble_eq_true rfl) ⟨Nat.le_of_ble_eq_true rfl, Nat.le_of_ble_eq_true rfl⟩ rfl dX11_writes_46) h (fun f197 H locs p198 h => ?_)
              obtain ⟨tf197, ogf197, ⟨sy1_f197, kpu0_31f197, ipu0_31f197, rpu0_31f197⟩⟩ := p198
              have of197 : Fr [60, 77, 60032] τ f f197 := Fr.tr o_7 ogf197 (by decide) (by decide)
              refine lv_iload_n hx hb dX11_writes_49 rfl (lv_at hl 0 rfl) ?_
              refine lv_iconst (v := 1) hx hb dX11_writes_50 (by decide) ?_
              refine lv_icmp_ne (tgt := 57) hx hb dX11_writes_51 (by decide) (fun c199 => ?_) (fun c199 => ?_)
              · have c200 : r46.toInt ≠ 1 := fun z_ => c199 (Int32.toInt_inj.mp z_)
                have i201 : iv r46 2 9 := iv_Nl c200 i51 (by decide)
                refine lv_aload_n hx hb dX11_writes_57 rfl (lv_at hl 1 rfl) ?_
                refine ldcSw hx hb hown (hE0.2.2.2.2.2.2.2.2.1 ("QuarterWalksModel", 420, " ", 9) (by decide)) dX11_writes_58 ?_
                obtain ⟨_, r204⟩ := t_rec tf197 hu0 (by decide) wf_60
                refine k_v (r_V C h hl (As := [.ref (G (20 + 9))]) (rest := []) (s_X11_saysX9 l D G b0 τ f197 tf197 u0 hu0 sy1_f197 (show iv sy1_f197 0 79 from by omega) kpu0_31f197) r204 (Cn := RX11) (T := TX11) (N := 32) rfl rfl mk_X11_says w_2006 w_2008 w_89 w_2009 ⟨Nat.le_of_ble_eq_true rfl, Nat.le_of_ble_eq_true rfl⟩ rfl (Nat.le_of_ble_eq_true rfl) ⟨Nat.le_of_ble_eq_true rfl, Nat.le_of_ble_eq_true rfl⟩ rfl dX11_writes_61) h (fun f206 H locs p207 h => ?_)
                obtain ⟨tf206, ogf206, ⟨sy1_f206, kpu0_31f206, ipu0_31f206, rpu0_31f206⟩⟩ := p207
                have of206 : Fr [60, 77, 60032] τ f f206 := Fr.tr of197 ogf206 (by decide) (by decide)
                refine lv_aload_n hx hb dX11_writes_64 rfl (lv_at hl 1 rfl) ?_
                refine lv_iload_n hx hb dX11_writes_65 rfl (lv_at hl 0 rfl) ?_
                obtain ⟨_, r208⟩ := t_rec tf206 hu0 (by decide) wf_60
                refine k_v (r_V C h hl (As := [.int r46]) (rest := []) (s_X11_saysDigitX l D G b0 τ f206 tf206 u0 hu0 r46 (iv_w i201 (by decide)) sy1_f206 (show iv sy1_f206 0 79 from by omega) kpu0_31f206) r208 (Cn := RX11) (T := TX11) (N := 32) rfl rfl mk_X11_saysDigit w_2013 w_2015 w_90 w_2016 ⟨Nat.le_of_ble_eq_true rfl, Nat.le_of_ble_eq_true rfl⟩ rfl (Nat.le_of_ble_eq_true rfl) ⟨Nat.le_of_ble_eq_true rfl, Nat.le_of_ble_eq_true rfl⟩ rfl dX11_writes_66) h (fun f210 H locs p211 h => ?_)
                obtain ⟨tf210, ogf210, ⟨sy1_f210, kpu0_31f210, ipu0_31f210, rpu0_31f210⟩⟩ := p211
                have of210 : Fr [60, 77, 60032] τ f f210 := Fr.tr of206 ogf210 (by decide) (by decide)
                exact L69 ls f210 H locs sy1_f210 (lv_cons hl 1 rfl (lv_cons hl 2 rfl (lv_cons hl 3 rfl (lv_nil hl)))) h tf210 of210 i6 (show iv sy1_f210 0 40 from by omega) kpu0_31f210 (show sy1_f210.toInt ≤ 5 * v7_2.toInt + 5 by omega)
              · have c202 : r46.toInt = 1 := congrArg Int32.toInt c199
                have i203 : iv r46 1 1 := iv_Q c202 i51 (iv_k (x := 1) (k := 1) rfl) (by decide)
                refine lv_goto (tgt := 69) hx hb dX11_writes_54 (by decide) ?_
                exact L69 ls f197 H locs sy1_f197 (lv_cons hl 1 rfl (lv_cons hl 2 rfl (lv_cons hl 3 rfl (lv_nil hl)))) h tf197 of197 i6 (show iv sy1_f197 0 40 from by omega) kpu0_31f197 (show sy1_f197.toInt ≤ 5 * v7_2.toInt + 5 by omega)
          · have c57 : 0 < g7_u0_31.toInt := Int32.lt_iff_toInt_lt.mp (iv_nle c54)
            have i58 : iv g7_u0_31 1 40 := iv_Lr c57 (iv_k (x := 0) (k := 0) rfl) ig7_u0_31 (by decide)
            refine lv_aload_n hx hb dX11_writes_34 rfl (lv_at hl 1 rfl) ?_
            refine ldcSw hx hb hown (hE0.2.2.2.2.2.2.2.2.1 ("QuarterWalksModel", 420, " ", 9) (by decide)) dX11_writes_35 ?_
            obtain ⟨_, r212⟩ := t_rec t_7 hu0 (by decide) wf_60
            refine k_v (r_V C h hl (As := [.ref (G (20 + 9))]) (rest := []) (s_X11_saysX9 l D G b0 τ f_7 t_7 u0 hu0 g7_u0_31 (iv_w i58 (by decide)) k7_u0_31) r212 (Cn := RX11) (T := TX11) (N := 32) rfl rfl mk_X11_says w_2006 w_2008 w_89 w_2009 ⟨Nat.le_of_ble_eq_true rfl, Nat.le_of_ble_eq_true rfl⟩ rfl (Nat.le_of_ble_eq_true rfl) ⟨Nat.le_of_ble_eq_true rfl, Nat.le_of_ble_eq_true rfl⟩ rfl dX11_writes_38) h (fun f214 H locs p215 h => ?_)
            obtain ⟨tf214, ogf214, ⟨sy1_f214, kpu0_31f214, ipu0_31f214, rpu0_31f214⟩⟩ := p215
            have of214 : Fr [60, 77, 60032] τ f f214 := Fr.tr o_7 ogf214 (by decide) (by decide)
            refine lv_aload_n hx hb dX11_writes_41 rfl (lv_at hl 1 rfl) ?_
            refine lv_iload_n hx hb dX11_writes_42 rfl (lv_at hl 3 rfl) ?_
            rcases (by omega : v7_2.toInt = 0 ∨ v7_2.toInt = 1 ∨ v7_2.toInt = 2 ∨ v7_2.toInt = 3 ∨ v7_2.toInt = 4 ∨ v7_2.toInt = 5 ∨ v7_2.toInt = 6 ∨ v7_2.toInt = 7) with c216 | c216 | c216 | c216 | c216 | c216 | c216 | c216
            · refine k_q (r_S C h hl (As := [.int v7_2]) (rest := [.ref u0]) (c_nameOf0 l D G b0 f214 v7_2 (Int32.toInt_inj.mp (by have n_ : (0 : Int32).toInt = 0 := rfl; omega))) mk_X11_nameOf w_2010 w_2011 w_2012 ⟨(Nat.le_of_ble_eq_true rfl), (Nat.le_of_ble_eq_true rfl)⟩ rfl (Nat.le_of_ble_eq_true rfl) ⟨(Nat.le_of_ble_eq_true rfl), (Nat.le_of_ble_eq_true rfl)⟩ rfl dX11_writes_43) h (fun r218 f217 H locs pf217 h => ?_)
              obtain ⟨rfl, rfl⟩ := pf217
              obtain ⟨_, r233⟩ := t_rec tf214 hu0 (by decide) wf_60
              refine k_v (r_V C h hl (As := [.ref (G (20 + 0))]) (rest := []) (s_X11_saysX0 l D G b0 τ f214 tf214 u0 hu0 sy1_f214 (show iv sy1_f214 0 79 from by omega) kpu0_31f214) r233 (Cn := RX11) (T := TX11) (N := 32) rfl rfl mk_X11_says w_2006 w_2008 w_89 w_2009 ⟨Nat.le_of_ble_eq_true rfl, Nat.le_of_ble_eq_true rfl⟩ rfl (Nat.le_of_ble_eq_true rfl) ⟨Nat.le_of_ble_eq_true rfl, Nat.le_of_ble_eq_true rfl⟩ rfl dX11_writes_46) h (fun f235 H locs p236 h => ?_)
              obtain ⟨tf235, ogf235, ⟨sy1_f235, kpu0_31f235, ipu0_31f235, rpu0_31f235⟩⟩ := p236
              have of235 : Fr [60, 77, 60032] τ f f235 := Fr.tr of214 ogf235 (by decide) (by decide)
              refine lv_iload_n hx hb dX11_writes_49 rfl (lv_at hl 0 rfl) ?_
              refine lv_iconst (v := 1) hx hb dX11_writes_50 (by decide) ?_
              refine lv_icmp_ne (tgt := 57) hx hb dX11_writes_51 (by decide) (fun c237 => ?_) (fun c237 => ?_)
              · have c238 : r46.toInt ≠ 1 := fun z_ => c237 (Int32.toInt_inj.mp z_)
                have i239 : iv r46 2 9 := iv_Nl c238 i51 (by decide)
                refine lv_aload_n hx hb dX11_writes_57 rfl (lv_at hl 1 rfl) ?_
                refine ldcSw hx hb hown (hE0.2.2.2.2.2.2.2.2.1 ("QuarterWalksModel", 420, " ", 9) (by decide)) dX11_writes_58 ?_
                obtain ⟨_, r242⟩ := t_rec tf235 hu0 (by decide) wf_60
                refine k_v (r_V C h hl (As := [.ref (G (20 + 9))]) (rest := []) (s_X11_saysX9 l D G b0 τ f235 tf235 u0 hu0 sy1_f235 (show iv sy1_f235 0 79 from by omega) kpu0_31f235) r242 (Cn := RX11) (T := TX11) (N := 32) rfl rfl mk_X11_says w_2006 w_2008 w_89 w_2009 ⟨Nat.le_of_ble_eq_true rfl, Nat.le_of_ble_eq_true rfl⟩ rfl (Nat.le_of_ble_eq_true rfl) ⟨Nat.le_of_ble_eq_true rfl, Nat.le_of_ble_eq_true rfl⟩ rfl dX11_writes_61) h (fun f244 H locs p245 h => ?_)
                obtain ⟨tf244, ogf244, ⟨sy1_f244, kpu0_31f244, ipu0_31f244, rpu0_31f244⟩⟩ := p245
                have of244 : Fr [60, 77, 60032] τ f f244 := Fr.tr of235 ogf244 (by decide) (by decide)
                refine lv_aload_n hx hb dX11_writes_64 rfl (lv_at hl 1 rfl) ?_
                refine lv_iload_n hx hb dX11_writes_65 rfl (lv_at hl 0 rfl) ?_
                obtain ⟨_, r246⟩ := t_rec tf244 hu0 (by decide) wf_60
                refine k_v (r_V C h hl (As := [.int r46]) (rest := []) (s_X11_saysDigitX l D G b0 τ f244 tf244 u0 hu0 r46 (iv_w i239 (by decide)) sy1_f244 (show iv sy1_f244 0 79 from by omega) kpu0_31f244) r246 (Cn := RX11) (T := TX11) (N := 32) rfl rfl mk_X11_saysDigit w_2013 w_2015 w_90 w_2016 ⟨Nat.le_of_ble_eq_true rfl, Nat.le_of_ble_eq_true rfl⟩ rfl (Nat.le_of_ble_eq_true rfl) ⟨Nat.le_of_ble_eq_true rfl, Nat.le_of_ble_eq_true rfl⟩ rfl dX11_writes_66) h (fun f248 H locs p249 h => ?_)
                obtain ⟨tf248, ogf248, ⟨sy1_f248, kpu0_31f248, ipu0_31f248, rpu0_31f248⟩⟩ := p249
                have of248 : Fr [60, 77, 60032] τ f f248 := Fr.tr of244 ogf248 (by decide) (by decide)
                exact L69 ls f248 H locs sy1_f248 (lv_cons hl 1 rfl (lv_cons hl 2 rfl (lv_cons hl 3 rfl (lv_nil hl)))) h tf248 of248 i6 (show iv sy1_f248 0 40 from by omega) kpu0_31f248 (show sy1_f248.toInt ≤ 5 * v7_2.toInt + 5 by omega)
              · have c240 : r46.toInt = 1 := congrArg Int32.toInt c237
                have i241 : iv r46 1 1 := iv_Q c240 i51 (iv_k (x := 1) (k := 1) rfl) (by decide)
                refine lv_goto (tgt := 69) hx hb dX11_writes_54 (by decide) ?_
                exact L69 ls f235 H locs sy1_f235 (lv_cons hl 1 rfl (lv_cons hl 2 rfl (lv_cons hl 3 rfl (lv_nil hl)))) h tf235 of235 i6 (show iv sy1_f235 0 40 from by omega) kpu0_31f235 (show sy1_f235.toInt ≤ 5 * v7_2.toInt + 5 by omega)
            · refine k_q (r_S C h hl (As := [.int v7_2]) (rest := [.ref u0]) (c_nameOf1 l D G b0 f214 v7_2 (Int32.toInt_inj.mp (by have n_ : (1 : Int32).toInt = 1 := rfl; omega))) mk_X11_nameOf w_2010 w_2011 w_2012 ⟨(Nat.le_of_ble_eq_true rfl), (Nat.le_of_ble_eq_true rfl)⟩ rfl (Nat.le_of_ble_eq_true rfl) ⟨(Nat.le_of_ble_eq_true rfl), (Nat.le_of_ble_eq_true rfl)⟩ rfl dX11_writes_43) h (fun r220 f219 H locs pf219 h => ?_)
              obtain ⟨rfl, rfl⟩ := pf219
              obtain ⟨_, r250⟩ := t_rec tf214 hu0 (by decide) wf_60
              refine k_v (r_V C h hl (As := [.ref (G (20 + 1))]) (rest := []) (s_X11_saysX1 l D G b0 τ f214 tf214 u0 hu0 sy1_f214 (show iv sy1_f214 0 78 from by omega) kpu0_31f214) r250 (Cn := RX11) (T := TX11) (N := 32) rfl rfl mk_X11_says w_2006 w_2008 w_89 w_2009 ⟨Nat.le_of_ble_eq_true rfl, Nat.le_of_ble_eq_true rfl⟩ rfl (Nat.le_of_ble_eq_true rfl) ⟨Nat.le_of_ble_eq_true rfl, Nat.le_of_ble_eq_true rfl⟩ rfl dX11_writes_46) h (fun f252 H locs p253 h => ?_)
              obtain ⟨tf252, ogf252, ⟨sy1_f252, kpu0_31f252, ipu0_31f252, rpu0_31f252⟩⟩ := p253
              have of252 : Fr [60, 77, 60032] τ f f252 := Fr.tr of214 ogf252 (by decide) (by decide)
              refine lv_iload_n hx hb dX11_writes_49 rfl (lv_at hl 0 rfl) ?_
              refine lv_iconst (v := 1) hx hb dX11_writes_50 (by decide) ?_
              refine lv_icmp_ne (tgt := 57) hx hb dX11_writes_51 (by decide) (fun c254 => ?_) (fun c254 => ?_)
              · have c255 : r46.toInt ≠ 1 := fun z_ => c254 (Int32.toInt_inj.mp z_)
                have i256 : iv r46 2 9 := iv_Nl c255 i51 (by decide)
                refine lv_aload_n hx hb dX11_writes_57 rfl (lv_at hl 1 rfl) ?_
                refine ldcSw hx hb hown (hE0.2.2.2.2.2.2.2.2.1 ("QuarterWalksModel", 420, " ", 9) (by decide)) dX11_writes_58 ?_
                obtain ⟨_, r259⟩ := t_rec tf252 hu0 (by decide) wf_60
                refine k_v (r_V C h hl (As := [.ref (G (20 + 9))]) (rest := []) (s_X11_saysX9 l D G b0 τ f252 tf252 u0 hu0 sy1_f252 (show iv sy1_f252 0 79 from by omega) kpu0_31f252) r259 (Cn := RX11) (T := TX11) (N := 32) rfl rfl mk_X11_says w_2006 w_2008 w_89 w_2009 ⟨Nat.le_of_ble_eq_true rfl, Nat.le_of_ble_eq_true rfl⟩ rfl (Nat.le_of_ble_eq_true rfl) ⟨Nat.le_of_ble_eq_true rfl, Nat.le_of_ble_eq_true rfl⟩ rfl dX11_writes_61) h (fun f261 H locs p262 h => ?_)
                obtain ⟨tf261, ogf261, ⟨sy1_f261, kpu0_31f261, ipu0_31f261, rpu0_31f261⟩⟩ := p262
                have of261 : Fr [60, 77, 60032] τ f f261 := Fr.tr of252 ogf261 (by decide) (by decide)
                refine lv_aload_n hx hb dX11_writes_64 rfl (lv_at hl 1 rfl) ?_
                refine lv_iload_n hx hb dX11_writes_65 rfl (lv_at hl 0 rfl) ?_
                obtain ⟨_, r263⟩ := t_rec tf261 hu0 (by decide) wf_60
                refine k_v (r_V C h hl (As := [.int r46]) (rest := []) (s_X11_saysDigitX l D G b0 τ f261 tf261 u0 hu0 r46 (iv_w i256 (by decide)) sy1_f261 (show iv sy1_f261 0 79 from by omega) kpu0_31f261) r263 (Cn := RX11) (T := TX11) (N := 32) rfl rfl mk_X11_saysDigit w_2013 w_2015 w_90 w_2016 ⟨Nat.le_of_ble_eq_true rfl, Nat.le_of_ble_eq_true rfl⟩ rfl (Nat.le_of_ble_eq_true rfl) ⟨Nat.le_of_ble_eq_true rfl, Nat.le_of_ble_eq_true rfl⟩ rfl dX11_writes_66) h (fun f265 H locs p266 h => ?_)
                obtain ⟨tf265, ogf265, ⟨sy1_f265, kpu0_31f265, ipu0_31f265, rpu0_31f265⟩⟩ := p266
                have of265 : Fr [60, 77, 60032] τ f f265 := Fr.tr of261 ogf265 (by decide) (by decide)
                exact L69 ls f265 H locs sy1_f265 (lv_cons hl 1 rfl (lv_cons hl 2 rfl (lv_cons hl 3 rfl (lv_nil hl)))) h tf265 of265 i6 (show iv sy1_f265 0 40 from by omega) kpu0_31f265 (show sy1_f265.toInt ≤ 5 * v7_2.toInt + 5 by omega)
              · have c257 : r46.toInt = 1 := congrArg Int32.toInt c254
                have i258 : iv r46 1 1 := iv_Q c257 i51 (iv_k (x := 1) (k := 1) rfl) (by decide)
                refine lv_goto (tgt := 69) hx hb dX11_writes_54 (by decide) ?_
                exact L69 ls f252 H locs sy1_f252 (lv_cons hl 1 rfl (lv_cons hl 2 rfl (lv_cons hl 3 rfl (lv_nil hl)))) h tf252 of252 i6 (show iv sy1_f252 0 40 from by omega) kpu0_31f252 (show sy1_f252.toInt ≤ 5 * v7_2.toInt + 5 by omega)
            · refine k_q (r_S C h hl (As := [.int v7_2]) (rest := [.ref u0]) (c_nameOf2 l D G b0 f214 v7_2 (Int32.toInt_inj.mp (by have n_ : (2 : Int32).toInt = 2 := rfl; omega))) mk_X11_nameOf w_2010 w_2011 w_2012 ⟨(Nat.le_of_ble_eq_true rfl), (Nat.le_of_ble_eq_true rfl)⟩ rfl (Nat.le_of_ble_eq_true rfl) ⟨(Nat.le_of_ble_eq_true rfl), (Nat.le_of_ble_eq_true rfl)⟩ rfl dX11_writes_43) h (fun r222 f221 H locs pf221 h => ?_)
              obtain ⟨rfl, rfl⟩ := pf221
              obtain ⟨_, r267⟩ := t_rec tf214 hu0 (by decide) wf_60
              refine k_v (r_V C h hl (As := [.ref (G (20 + 2))]) (rest := []) (s_X11_saysX2 l D G b0 τ f214 tf214 u0 hu0 sy1_f214 (show iv sy1_f214 0 79 from by omega) kpu0_31f214) r267 (Cn := RX11) (T := TX11) (N := 32) rfl rfl mk_X11_says w_2006 w_2008 w_89 w_2009 ⟨Nat.le_of_ble_eq_true rfl, Nat.le_of_ble_eq_true rfl⟩ rfl (Nat.le_of_ble_eq_true rfl) ⟨Nat.le_of_ble_eq_true rfl, Nat.le_of_ble_eq_true rfl⟩ rfl dX11_writes_46) h (fun f269 H locs p270 h => ?_)
              obtain ⟨tf269, ogf269, ⟨sy1_f269, kpu0_31f269, ipu0_31f269, rpu0_31f269⟩⟩ := p270
              have of269 : Fr [60, 77, 60032] τ f f269 := Fr.tr of214 ogf269 (by decide) (by decide)
              refine lv_iload_n hx hb dX11_writes_49 rfl (lv_at hl 0 rfl) ?_
              refine lv_iconst (v := 1) hx hb dX11_writes_50 (by decide) ?_
              refine lv_icmp_ne (tgt := 57) hx hb dX11_writes_51 (by decide) (fun c271 => ?_) (fun c271 => ?_)
              · have c272 : r46.toInt ≠ 1 := fun z_ => c271 (Int32.toInt_inj.mp z_)
                have i273 : iv r46 2 9 := iv_Nl c272 i51 (by decide)
                refine lv_aload_n hx hb dX11_writes_57 rfl (lv_at hl 1 rfl) ?_
                refine ldcSw hx hb hown (hE0.2.2.2.2.2.2.2.2.1 ("QuarterWalksModel", 420, " ", 9) (by decide)) dX11_writes_58 ?_
                obtain ⟨_, r276⟩ := t_rec tf269 hu0 (by decide) wf_60
                refine k_v (r_V C h hl (As := [.ref (G (20 + 9))]) (rest := []) (s_X11_saysX9 l D G b0 τ f269 tf269 u0 hu0 sy1_f269 (show iv sy1_f269 0 79 from by omega) kpu0_31f269) r276 (Cn := RX11) (T := TX11) (N := 32) rfl rfl mk_X11_says w_2006 w_2008 w_89 w_2009 ⟨Nat.le_of_ble_eq_true rfl, Nat.le_of_ble_eq_true rfl⟩ rfl (Nat.le_of_ble_eq_true rfl) ⟨Nat.le_of_ble_eq_true rfl, Nat.le_of_ble_eq_true rfl⟩ rfl dX11_writes_61) h (fun f278 H locs p279 h => ?_)
                obtain ⟨tf278, ogf278, ⟨sy1_f278, kpu0_31f278, ipu0_31f278, rpu0_31f278⟩⟩ := p279
                have of278 : Fr [60, 77, 60032] τ f f278 := Fr.tr of269 ogf278 (by decide) (by decide)
                refine lv_aload_n hx hb dX11_writes_64 rfl (lv_at hl 1 rfl) ?_
                refine lv_iload_n hx hb dX11_writes_65 rfl (lv_at hl 0 rfl) ?_
                obtain ⟨_, r280⟩ := t_rec tf278 hu0 (by decide) wf_60
                refine k_v (r_V C h hl (As := [.int r46]) (rest := []) (s_X11_saysDigitX l D G b0 τ f278 tf278 u0 hu0 r46 (iv_w i273 (by decide)) sy1_f278 (show iv sy1_f278 0 79 from by omega) kpu0_31f278) r280 (Cn := RX11) (T := TX11) (N := 32) rfl rfl mk_X11_saysDigit w_2013 w_2015 w_90 w_2016 ⟨Nat.le_of_ble_eq_true rfl, Nat.le_of_ble_eq_true rfl⟩ rfl (Nat.le_of_ble_eq_true rfl) ⟨Nat.le_of_ble_eq_true rfl, Nat.le_of_ble_eq_true rfl⟩ rfl dX11_writes_66) h (fun f282 H locs p283 h => ?_)
                obtain ⟨tf282, ogf282, ⟨sy1_f282, kpu0_31f282, ipu0_31f282, rpu0_31f282⟩⟩ := p283
                have of282 : Fr [60, 77, 60032] τ f f282 := Fr.tr of278 ogf282 (by decide) (by decide)
                exact L69 ls f282 H locs sy1_f282 (lv_cons hl 1 rfl (lv_cons hl 2 rfl (lv_cons hl 3 rfl (lv_nil hl)))) h tf282 of282 i6 (show iv sy1_f282 0 40 from by omega) kpu0_31f282 (show sy1_f282.toInt ≤ 5 * v7_2.toInt + 5 by omega)
              · have c274 : r46.toInt = 1 := congrArg Int32.toInt c271
                have i275 : iv r46 1 1 := iv_Q c274 i51 (iv_k (x := 1) (k := 1) rfl) (by decide)
                refine lv_goto (tgt := 69) hx hb dX11_writes_54 (by decide) ?_
                exact L69 ls f269 H locs sy1_f269 (lv_cons hl 1 rfl (lv_cons hl 2 rfl (lv_cons hl 3 rfl (lv_nil hl)))) h tf269 of269 i6 (show iv sy1_f269 0 40 from by omega) kpu0_31f269 (show sy1_f269.toInt ≤ 5 * v7_2.toInt + 5 by omega)
            · refine k_q (r_S C h hl (As := [.int v7_2]) (rest := [.ref u0]) (c_nameOf3 l D G b0 f214 v7_2 (Int32.toInt_inj.mp (by have n_ : (3 : Int32).toInt = 3 := rfl; omega))) mk_X11_nameOf w_2010 w_2011 w_2012 ⟨(Nat.le_of_ble_eq_true rfl), (Nat.le_of_ble_eq_true rfl)⟩ rfl (Nat.le_of_ble_eq_true rfl) ⟨(Nat.le_of_ble_eq_true rfl), (Nat.le_of_ble_eq_true rfl)⟩ rfl dX11_writes_43) h (fun r224 f223 H locs pf223 h => ?_)
              obtain ⟨rfl, rfl⟩ := pf223
              obtain ⟨_, r284⟩ := t_rec tf214 hu0 (by decide) wf_60
              refine k_v (r_V C h hl (As := [.ref (G (20 + 3))]) (rest := []) (s_X11_saysX3 l D G b0 τ f214 tf214 u0 hu0 sy1_f214 (show iv sy1_f214 0 78 from by omega) kpu0_31f214) r284 (Cn := RX11) (T := TX11) (N := 32) rfl rfl mk_X11_says w_2006 w_2008 w_89 w_2009 ⟨Nat.le_of_ble_eq_true rfl, Nat.le_of_ble_eq_true rfl⟩ rfl (Nat.le_of_ble_eq_true rfl) ⟨Nat.le_of_ble_eq_true rfl, Nat.le_of_ble_eq_true rfl⟩ rfl dX11_writes_46) h (fun f286 H locs p287 h => ?_)
              obtain ⟨tf286, ogf286, ⟨sy1_f286, kpu0_31f286, ipu0_31f286, rpu0_31f286⟩⟩ := p287
              have of286 : Fr [60, 77, 60032] τ f f286 := Fr.tr of214 ogf286 (by decide) (by decide)
              refine lv_iload_n hx hb dX11_writes_49 rfl (lv_at hl 0 rfl) ?_
              refine lv_iconst (v := 1) hx hb dX11_writes_50 (by decide) ?_
              refine lv_icmp_ne (tgt := 57) hx hb dX11_writes_51 (by decide) (fun c288 => ?_) (fun c288 => ?_)
              · have c289 : r46.toInt ≠ 1 := fun z_ => c288 (Int32.toInt_inj.mp z_)
                have i290 : iv r46 2 9 := iv_Nl c289 i51 (by decide)
                refine lv_aload_n hx hb dX11_writes_57 rfl (lv_at hl 1 rfl) ?_
                refine ldcSw hx hb hown (hE0.2.2.2.2.2.2.2.2.1 ("QuarterWalksModel", 420, " ", 9) (by decide)) dX11_writes_58 ?_
                obtain ⟨_, r293⟩ := t_rec tf286 hu0 (by decide) wf_60
                refine k_v (r_V C h hl (As := [.ref (G (20 + 9))]) (rest := []) (s_X11_saysX9 l D G b0 τ f286 tf286 u0 hu0 sy1_f286 (show iv sy1_f286 0 79 from by omega) kpu0_31f286) r293 (Cn := RX11) (T := TX11) (N := 32) rfl rfl mk_X11_says w_2006 w_2008 w_89 w_2009 ⟨Nat.le_of_ble_eq_true rfl, Nat.le_of_ble_eq_true rfl⟩ rfl (Nat.le_of_ble_eq_true rfl) ⟨Nat.le_of_ble_eq_true rfl, Nat.le_of_ble_eq_true rfl⟩ rfl dX11_writes_61) h (fun f295 H locs p296 h => ?_)
                obtain ⟨tf295, ogf295, ⟨sy1_f295, kpu0_31f295, ipu0_31f295, rpu0_31f295⟩⟩ := p296
                have of295 : Fr [60, 77, 60032] τ f f295 := Fr.tr of286 ogf295 (by decide) (by decide)
                refine lv_aload_n hx hb dX11_writes_64 rfl (lv_at hl 1 rfl) ?_
                refine lv_iload_n hx hb dX11_writes_65 rfl (lv_at hl 0 rfl) ?_
                obtain ⟨_, r297⟩ := t_rec tf295 hu0 (by decide) wf_60
                refine k_v (r_V C h hl (As := [.int r46]) (rest := []) (s_X11_saysDigitX l D G b0 τ f295 tf295 u0 hu0 r46 (iv_w i290 (by decide)) sy1_f295 (show iv sy1_f295 0 79 from by omega) kpu0_31f295) r297 (Cn := RX11) (T := TX11) (N := 32) rfl rfl mk_X11_saysDigit w_2013 w_2015 w_90 w_2016 ⟨Nat.le_of_ble_eq_true rfl, Nat.le_of_ble_eq_true rfl⟩ rfl (Nat.le_of_ble_eq_true rfl) ⟨Nat.le_of_ble_eq_true rfl, Nat.le_of_ble_eq_true rfl⟩ rfl dX11_writes_66) h (fun f299 H locs p300 h => ?_)
                obtain ⟨tf299, ogf299, ⟨sy1_f299, kpu0_31f299, ipu0_31f299, rpu0_31f299⟩⟩ := p300
                have of299 : Fr [60, 77, 60032] τ f f299 := Fr.tr of295 ogf299 (by decide) (by decide)
                exact L69 ls f299 H locs sy1_f299 (lv_cons hl 1 rfl (lv_cons hl 2 rfl (lv_cons hl 3 rfl (lv_nil hl)))) h tf299 of299 i6 (show iv sy1_f299 0 40 from by omega) kpu0_31f299 (show sy1_f299.toInt ≤ 5 * v7_2.toInt + 5 by omega)
              · have c291 : r46.toInt = 1 := congrArg Int32.toInt c288
                have i292 : iv r46 1 1 := iv_Q c291 i51 (iv_k (x := 1) (k := 1) rfl) (by decide)
                refine lv_goto (tgt := 69) hx hb dX11_writes_54 (by decide) ?_
                exact L69 ls f286 H locs sy1_f286 (lv_cons hl 1 rfl (lv_cons hl 2 rfl (lv_cons hl 3 rfl (lv_nil hl)))) h tf286 of286 i6 (show iv sy1_f286 0 40 from by omega) kpu0_31f286 (show sy1_f286.toInt ≤ 5 * v7_2.toInt + 5 by omega)
            · refine k_q (r_S C h hl (As := [.int v7_2]) (rest := [.ref u0]) (c_nameOf4 l D G b0 f214 v7_2 (Int32.toInt_inj.mp (by have n_ : (4 : Int32).toInt = 4 := rfl; omega))) mk_X11_nameOf w_2010 w_2011 w_2012 ⟨(Nat.le_of_ble_eq_true rfl), (Nat.le_of_ble_eq_true rfl)⟩ rfl (Nat.le_of_ble_eq_true rfl) ⟨(Nat.le_of_ble_eq_true rfl), (Nat.le_of_ble_eq_true rfl)⟩ rfl dX11_writes_43) h (fun r226 f225 H locs pf225 h => ?_)
              obtain ⟨rfl, rfl⟩ := pf225
              obtain ⟨_, r301⟩ := t_rec tf214 hu0 (by decide) wf_60
              refine k_v (r_V C h hl (As := [.ref (G (20 + 4))]) (rest := []) (s_X11_saysX4 l D G b0 τ f214 tf214 u0 hu0 sy1_f214 (show iv sy1_f214 0 79 from by omega) kpu0_31f214) r301 (Cn := RX11) (T := TX11) (N := 32) rfl rfl mk_X11_says w_2006 w_2008 w_89 w_2009 ⟨Nat.le_of_ble_eq_true rfl, Nat.le_of_ble_eq_true rfl⟩ rfl (Nat.le_of_ble_eq_true rfl) ⟨Nat.le_of_ble_eq_true rfl, Nat.le_of_ble_eq_true rfl⟩ rfl dX11_writes_46) h (fun f303 H locs p304 h => ?_)
              obtain ⟨tf303, ogf303, ⟨sy1_f303, kpu0_31f303, ipu0_31f303, rpu0_31f303⟩⟩ := p304
              have of303 : Fr [60, 77, 60032] τ f f303 := Fr.tr of214 ogf303 (by decide) (by decide)
              refine lv_iload_n hx hb dX11_writes_49 rfl (lv_at hl 0 rfl) ?_
              refine lv_iconst (v := 1) hx hb dX11_writes_50 (by decide) ?_
              refine lv_icmp_ne (tgt := 57) hx hb dX11_writes_51 (by decide) (fun c305 => ?_) (fun c305 => ?_)
              · have c306 : r46.toInt ≠ 1 := fun z_ => c305 (Int32.toInt_inj.mp z_)
                have i307 : iv r46 2 9 := iv_Nl c306 i51 (by decide)
                refine lv_aload_n hx hb dX11_writes_57 rfl (lv_at hl 1 rfl) ?_
                refine ldcSw hx hb hown (hE0.2.2.2.2.2.2.2.2.1 ("QuarterWalksModel", 420, " ", 9) (by decide)) dX11_writes_58 ?_
                obtain ⟨_, r310⟩ := t_rec tf303 hu0 (by decide) wf_60
                refine k_v (r_V C h hl (As := [.ref (G (20 + 9))]) (rest := []) (s_X11_saysX9 l D G b0 τ f303 tf303 u0 hu0 sy1_f303 (show iv sy1_f303 0 79 from by omega) kpu0_31f303) r310 (Cn := RX11) (T := TX11) (N := 32) rfl rfl mk_X11_says w_2006 w_2008 w_89 w_2009 ⟨Nat.le_of_ble_eq_true rfl, Nat.le_of_ble_eq_true rfl⟩ rfl (Nat.le_of_ble_eq_true rfl) ⟨Nat.le_of_ble_eq_true rfl, Nat.le_of_ble_eq_true rfl⟩ rfl dX11_writes_61) h (fun f312 H locs p313 h => ?_)
                obtain ⟨tf312, ogf312, ⟨sy1_f312, kpu0_31f312, ipu0_31f312, rpu0_31f312⟩⟩ := p313
                have of312 : Fr [60, 77, 60032] τ f f312 := Fr.tr of303 ogf312 (by decide) (by decide)
                refine lv_aload_n hx hb dX11_writes_64 rfl (lv_at hl 1 rfl) ?_
                refine lv_iload_n hx hb dX11_writes_65 rfl (lv_at hl 0 rfl) ?_
                obtain ⟨_, r314⟩ := t_rec tf312 hu0 (by decide) wf_60
                refine k_v (r_V C h hl (As := [.int r46]) (rest := []) (s_X11_saysDigitX l D G b0 τ f312 tf312 u0 hu0 r46 (iv_w i307 (by decide)) sy1_f312 (show iv sy1_f312 0 79 from by omega) kpu0_31f312) r314 (Cn := RX11) (T := TX11) (N := 32) rfl rfl mk_X11_saysDigit w_2013 w_2015 w_90 w_2016 ⟨Nat.le_of_ble_eq_true rfl, Nat.le_of_ble_eq_true rfl⟩ rfl (Nat.le_of_ble_eq_true rfl) ⟨Nat.le_of_ble_eq_true rfl, Nat.le_of_ble_eq_true rfl⟩ rfl dX11_writes_66) h (fun f316 H locs p317 h => ?_)
                obtain ⟨tf316, ogf316, ⟨sy1_f316, kpu0_31f316, ipu0_31f316, rpu0_31f316⟩⟩ := p317
                have of316 : Fr [60, 77, 60032] τ f f316 := Fr.tr of312 ogf316 (by decide) (by decide)
                exact L69 ls f316 H locs sy1_f316 (lv_cons hl 1 rfl (lv_cons hl 2 rfl (lv_cons hl 3 rfl (lv_nil hl)))) h tf316 of316 i6 (show iv sy1_f316 0 40 from by omega) kpu0_31f316 (show sy1_f316.toInt ≤ 5 * v7_2.toInt + 5 by omega)
              · have c308 : r46.toInt = 1 := congrArg Int32.toInt c305
                have i309 : iv r46 1 1 := iv_Q c308 i51 (iv_k (x := 1) (k := 1) rfl) (by decide)
                refine lv_goto (tgt := 69) hx hb dX11_writes_54 (by decide) ?_
                exact L69 ls f303 H locs sy1_f303 (lv_cons hl 1 rfl (lv_cons hl 2 rfl (lv_cons hl 3 rfl (lv_nil hl)))) h tf303 of303 i6 (show iv sy1_f303 0 40 from by omega) kpu0_31f303 (show sy1_f303.toInt ≤ 5 * v7_2.toInt + 5 by omega)
            · refine k_q (r_S C h hl (As := [.int v7_2]) (rest := [.ref u0]) (c_nameOf5 l D G b0 f214 v7_2 (Int32.toInt_inj.mp (by have n_ : (5 : Int32).toInt = 5 := rfl; omega))) mk_X11_nameOf w_2010 w_2011 w_2012 ⟨(Nat.le_of_ble_eq_true rfl), (Nat.le_of_ble_eq_true rfl)⟩ rfl (Nat.le_of_ble_eq_true rfl) ⟨(Nat.le_of_ble_eq_true rfl), (Nat.le_of_ble_eq_true rfl)⟩ rfl dX11_writes_43) h (fun r228 f227 H locs pf227 h => ?_)
              obtain ⟨rfl, rfl⟩ := pf227
              obtain ⟨_, r318⟩ := t_rec tf214 hu0 (by decide) wf_60
              refine k_v (r_V C h hl (As := [.ref (G (20 + 5))]) (rest := []) (s_X11_saysX5 l D G b0 τ f214 tf214 u0 hu0 sy1_f214 (show iv sy1_f214 0 78 from by omega) kpu0_31f214) r318 (Cn := RX11) (T := TX11) (N := 32) rfl rfl mk_X11_says w_2006 w_2008 w_89 w_2009 ⟨Nat.le_of_ble_eq_true rfl, Nat.le_of_ble_eq_true rfl⟩ rfl (Nat.le_of_ble_eq_true rfl) ⟨Nat.le_of_ble_eq_true rfl, Nat.le_of_ble_eq_true rfl⟩ rfl dX11_writes_46) h (fun f320 H locs p321 h => ?_)
              obtain ⟨tf320, ogf320, ⟨sy1_f320, kpu0_31f320, ipu0_31f320, rpu0_31f320⟩⟩ := p321
              have of320 : Fr [60, 77, 60032] τ f f320 := Fr.tr of214 ogf320 (by decide) (by decide)
              refine lv_iload_n hx hb dX11_writes_49 rfl (lv_at hl 0 rfl) ?_
              refine lv_iconst (v := 1) hx hb dX11_writes_50 (by decide) ?_
              refine lv_icmp_ne (tgt := 57) hx hb dX11_writes_51 (by decide) (fun c322 => ?_) (fun c322 => ?_)
              · have c323 : r46.toInt ≠ 1 := fun z_ => c322 (Int32.toInt_inj.mp z_)
                have i324 : iv r46 2 9 := iv_Nl c323 i51 (by decide)
                refine lv_aload_n hx hb dX11_writes_57 rfl (lv_at hl 1 rfl) ?_
                refine ldcSw hx hb hown (hE0.2.2.2.2.2.2.2.2.1 ("QuarterWalksModel", 420, " ", 9) (by decide)) dX11_writes_58 ?_
                obtain ⟨_, r327⟩ := t_rec tf320 hu0 (by decide) wf_60
                refine k_v (r_V C h hl (As := [.ref (G (20 + 9))]) (rest := []) (s_X11_saysX9 l D G b0 τ f320 tf320 u0 hu0 sy1_f320 (show iv sy1_f320 0 79 from by omega) kpu0_31f320) r327 (Cn := RX11) (T := TX11) (N := 32) rfl rfl mk_X11_says w_2006 w_2008 w_89 w_2009 ⟨Nat.le_of_ble_eq_true rfl, Nat.le_of_ble_eq_true rfl⟩ rfl (Nat.le_of_ble_eq_true rfl) ⟨Nat.le_of_ble_eq_true rfl, Nat.le_of_ble_eq_true rfl⟩ rfl dX11_writes_61) h (fun f329 H locs p330 h => ?_)
                obtain ⟨tf329, ogf329, ⟨sy1_f329, kpu0_31f329, ipu0_31f329, rpu0_31f329⟩⟩ := p330
                have of329 : Fr [60, 77, 60032] τ f f329 := Fr.tr of320 ogf329 (by decide) (by decide)
                refine lv_aload_n hx hb dX11_writes_64 rfl (lv_at hl 1 rfl) ?_
                refine lv_iload_n hx hb dX11_writes_65 rfl (lv_at hl 0 rfl) ?_
                obtain ⟨_, r331⟩ := t_rec tf329 hu0 (by decide) wf_60
                refine k_v (r_V C h hl (As := [.int r46]) (rest := []) (s_X11_saysDigitX l D G b0 τ f329 tf329 u0 hu0 r46 (iv_w i324 (by decide)) sy1_f329 (show iv sy1_f329 0 79 from by omega) kpu0_31f329) r331 (Cn := RX11) (T := TX11) (N := 32) rfl rfl mk_X11_saysDigit w_2013 w_2015 w_90 w_2016 ⟨Nat.le_of_ble_eq_true rfl, Nat.le_of_ble_eq_true rfl⟩ rfl (Nat.le_of_ble_eq_true rfl) ⟨Nat.le_of_ble_eq_true rfl, Nat.le_of_ble_eq_true rfl⟩ rfl dX11_writes_66) h (fun f333 H locs p334 h => ?_)
                obtain ⟨tf333, ogf333, ⟨sy1_f333, kpu0_31f333, ipu0_31f333, rpu0_31f333⟩⟩ := p334
                have of333 : Fr [60, 77, 60032] τ f f333 := Fr.tr of329 ogf333 (by decide) (by decide)
                exact L69 ls f333 H locs sy1_f333 (lv_cons hl 1 rfl (lv_cons hl 2 rfl (lv_cons hl 3 rfl (lv_nil hl)))) h tf333 of333 i6 (show iv sy1_f333 0 40 from by omega) kpu0_31f333 (show sy1_f333.toInt ≤ 5 * v7_2.toInt + 5 by omega)
              · have c325 : r46.toInt = 1 := congrArg Int32.toInt c322
                have i326 : iv r46 1 1 := iv_Q c325 i51 (iv_k (x := 1) (k := 1) rfl) (by decide)
                refine lv_goto (tgt := 69) hx hb dX11_writes_54 (by decide) ?_
                exact L69 ls f320 H locs sy1_f320 (lv_cons hl 1 rfl (lv_cons hl 2 rfl (lv_cons hl 3 rfl (lv_nil hl)))) h tf320 of320 i6 (show iv sy1_f320 0 40 from by omega) kpu0_31f320 (show sy1_f320.toInt ≤ 5 * v7_2.toInt + 5 by omega)
            · refine k_q (r_S C h hl (As := [.int v7_2]) (rest := [.ref u0]) (c_nameOf6 l D G b0 f214 v7_2 (Int32.toInt_inj.mp (by have n_ : (6 : Int32).toInt = 6 := rfl; omega))) mk_X11_nameOf w_2010 w_2011 w_2012 ⟨(Nat.le_of_ble_eq_true rfl), (Nat.le_of_ble_eq_true rfl)⟩ rfl (Nat.le_of_ble_eq_true rfl) ⟨(Nat.le_of_ble_eq_true rfl), (Nat.le_of_ble_eq_true rfl)⟩ rfl dX11_writes_43) h (fun r230 f229 H locs pf229 h => ?_)
              obtain ⟨rfl, rfl⟩ := pf229
              obtain ⟨_, r335⟩ := t_rec tf214 hu0 (by decide) wf_60
              refine k_v (r_V C h hl (As := [.ref (G (20 + 6))]) (rest := []) (s_X11_saysX6 l D G b0 τ f214 tf214 u0 hu0 sy1_f214 (show iv sy1_f214 0 79 from by omega) kpu0_31f214) r335 (Cn := RX11) (T := TX11) (N := 32) rfl rfl mk_X11_says w_2006 w_2008 w_89 w_2009 ⟨Nat.le_of_ble_eq_true rfl, Nat.le_of_ble_eq_true rfl⟩ rfl (Nat.le_of_ble_eq_true rfl) ⟨Nat.le_of_ble_eq_true rfl, Nat.le_of_ble_eq_true rfl⟩ rfl dX11_writes_46) h (fun f337 H locs p338 h => ?_)
              obtain ⟨tf337, ogf337, ⟨sy1_f337, kpu0_31f337, ipu0_31f337, rpu0_31f337⟩⟩ := p338
              have of337 : Fr [60, 77, 60032] τ f f337 := Fr.tr of214 ogf337 (by decide) (by decide)
              refine lv_iload_n hx hb dX11_writes_49 rfl (lv_at hl 0 rfl) ?_
              refine lv_iconst (v := 1) hx hb dX11_writes_50 (by decide) ?_
              refine lv_icmp_ne (tgt := 57) hx hb dX11_writes_51 (by decide) (fun c339 => ?_) (fun c339 => ?_)
              · have c340 : r46.toInt ≠ 1 := fun z_ => c339 (Int32.toInt_inj.mp z_)
                have i341 : iv r46 2 9 := iv_Nl c340 i51 (by decide)
                refine lv_aload_n hx hb dX11_writes_57 rfl (lv_at hl 1 rfl) ?_
                refine ldcSw hx hb hown (hE0.2.2.2.2.2.2.2.2.1 ("QuarterWalksModel", 420, " ", 9) (by decide)) dX11_writes_58 ?_
                obtain ⟨_, r344⟩ := t_rec tf337 hu0 (by decide) wf_60
                refine k_v (r_V C h hl (As := [.ref (G (20 + 9))]) (rest := []) (s_X11_saysX9 l D G b0 τ f337 tf337 u0 hu0 sy1_f337 (show iv sy1_f337 0 79 from by omega) kpu0_31f337) r344 (Cn := RX11) (T := TX11) (N := 32) rfl rfl mk_X11_says w_2006 w_2008 w_89 w_2009 ⟨Nat.le_of_ble_eq_true rfl, Nat.le_of_ble_eq_true rfl⟩ rfl (Nat.le_of_ble_eq_true rfl) ⟨Nat.le_of_ble_eq_true rfl, Nat.le_of_ble_eq_true rfl⟩ rfl dX11_writes_61) h (fun f346 H locs p347 h => ?_)
                obtain ⟨tf346, ogf346, ⟨sy1_f346, kpu0_31f346, ipu0_31f346, rpu0_31f346⟩⟩ := p347
                have of346 : Fr [60, 77, 60032] τ f f346 := Fr.tr of337 ogf346 (by decide) (by decide)
                refine lv_aload_n hx hb dX11_writes_64 rfl (lv_at hl 1 rfl) ?_
                refine lv_iload_n hx hb dX11_writes_65 rfl (lv_at hl 0 rfl) ?_
                obtain ⟨_, r348⟩ := t_rec tf346 hu0 (by decide) wf_60
                refine k_v (r_V C h hl (As := [.int r46]) (rest := []) (s_X11_saysDigitX l D G b0 τ f346 tf346 u0 hu0 r46 (iv_w i341 (by decide)) sy1_f346 (show iv sy1_f346 0 79 from by omega) kpu0_31f346) r348 (Cn := RX11) (T := TX11) (N := 32) rfl rfl mk_X11_saysDigit w_2013 w_2015 w_90 w_2016 ⟨Nat.le_of_ble_eq_true rfl, Nat.le_of_ble_eq_true rfl⟩ rfl (Nat.le_of_ble_eq_true rfl) ⟨Nat.le_of_ble_eq_true rfl, Nat.le_of_ble_eq_true rfl⟩ rfl dX11_writes_66) h (fun f350 H locs p351 h => ?_)
                obtain ⟨tf350, ogf350, ⟨sy1_f350, kpu0_31f350, ipu0_31f350, rpu0_31f350⟩⟩ := p351
                have of350 : Fr [60, 77, 60032] τ f f350 := Fr.tr of346 ogf350 (by decide) (by decide)
                exact L69 ls f350 H locs sy1_f350 (lv_cons hl 1 rfl (lv_cons hl 2 rfl (lv_cons hl 3 rfl (lv_nil hl)))) h tf350 of350 i6 (show iv sy1_f350 0 40 from by omega) kpu0_31f350 (show sy1_f350.toInt ≤ 5 * v7_2.toInt + 5 by omega)
              · have c342 : r46.toInt = 1 := congrArg Int32.toInt c339
                have i343 : iv r46 1 1 := iv_Q c342 i51 (iv_k (x := 1) (k := 1) rfl) (by decide)
                refine lv_goto (tgt := 69) hx hb dX11_writes_54 (by decide) ?_
                exact L69 ls f337 H locs sy1_f337 (lv_cons hl 1 rfl (lv_cons hl 2 rfl (lv_cons hl 3 rfl (lv_nil hl)))) h tf337 of337 i6 (show iv sy1_f337 0 40 from by omega) kpu0_31f337 (show sy1_f337.toInt ≤ 5 * v7_2.toInt + 5 by omega)
            · refine k_q (r_S C h hl (As := [.int v7_2]) (rest := [.ref u0]) (c_nameOf7 l D G b0 f214 v7_2 (Int32.toInt_inj.mp (by have n_ : (7 : Int32).toInt = 7 := rfl; omega))) mk_X11_nameOf w_2010 w_2011 w_2012 ⟨(Nat.le_of_ble_eq_true rfl), (Nat.le_of_ble_eq_true rfl)⟩ rfl (Nat.le_of_ble_eq_true rfl) ⟨(Nat.le_of_ble_eq_true rfl), (Nat.le_of_ble_eq_true rfl)⟩ rfl dX11_writes_43) h (fun r232 f231 H locs pf231 h => ?_)
              obtain ⟨rfl, rfl⟩ := pf231
              obtain ⟨_, r352⟩ := t_rec tf214 hu0 (by decide) wf_60
              refine k_v (r_V C h hl (As := [.ref (G (20 + 7))]) (rest := []) (s_X11_saysX7 l D G b0 τ f214 tf214 u0 hu0 sy1_f214 (show iv sy1_f214 0 78 from by omega) kpu0_31f214) r352 (Cn := RX11) (T := TX11) (N := 32) rfl rfl mk_X11_says w_2006 w_2008 w_89 w_2009 ⟨Nat.le_of_ble_eq_true rfl, Nat.le_of_ble_eq_true rfl⟩ rfl (Nat.le_of_ble_eq_true rfl) ⟨Nat.le_of_ble_eq_true rfl, Nat.le_of_ble_eq_true rfl⟩ rfl dX11_writes_46) h (fun f354 H locs p355 h => ?_)
              obtain ⟨tf354, ogf354, ⟨sy1_f354, kpu0_31f354, ipu0_31f354, rpu0_31f354⟩⟩ := p355
              have of354 : Fr [60, 77, 60032] τ f f354 := Fr.tr of214 ogf354 (by decide) (by decide)
              refine lv_iload_n hx hb dX11_writes_49 rfl (lv_at hl 0 rfl) ?_
              refine lv_iconst (v := 1) hx hb dX11_writes_50 (by decide) ?_
              refine lv_icmp_ne (tgt := 57) hx hb dX11_writes_51 (by decide) (fun c356 => ?_) (fun c356 => ?_)
              · have c357 : r46.toInt ≠ 1 := fun z_ => c356 (Int32.toInt_inj.mp z_)
                have i358 : iv r46 2 9 := iv_Nl c357 i51 (by decide)
                refine lv_aload_n hx hb dX11_writes_57 rfl (lv_at hl 1 rfl) ?_
                refine ldcSw hx hb hown (hE0.2.2.2.2.2.2.2.2.1 ("QuarterWalksModel", 420, " ", 9) (by decide)) dX11_writes_58 ?_
                obtain ⟨_, r361⟩ := t_rec tf354 hu0 (by decide) wf_60
                refine k_v (r_V C h hl (As := [.ref (G (20 + 9))]) (rest := []) (s_X11_saysX9 l D G b0 τ f354 tf354 u0 hu0 sy1_f354 (show iv sy1_f354 0 79 from by omega) kpu0_31f354) r361 (Cn := RX11) (T := TX11) (N := 32) rfl rfl mk_X11_says w_2006 w_2008 w_89 w_2009 ⟨Nat.le_of_ble_eq_true rfl, Nat.le_of_ble_eq_true rfl⟩ rfl (Nat.le_of_ble_eq_true rfl) ⟨Nat.le_of_ble_eq_true rfl, Nat.le_of_ble_eq_true rfl⟩ rfl dX11_writes_61) h (fun f363 H locs p364 h => ?_)
                obtain ⟨tf363, ogf363, ⟨sy1_f363, kpu0_31f363, ipu0_31f363, rpu0_31f363⟩⟩ := p364
                have of363 : Fr [60, 77, 60032] τ f f363 := Fr.tr of354 ogf363 (by decide) (by decide)
                refine lv_aload_n hx hb dX11_writes_64 rfl (lv_at hl 1 rfl) ?_
                refine lv_iload_n hx hb dX11_writes_65 rfl (lv_at hl 0 rfl) ?_
                obtain ⟨_, r365⟩ := t_rec tf363 hu0 (by decide) wf_60
                refine k_v (r_V C h hl (As := [.int r46]) (rest := []) (s_X11_saysDigitX l D G b0 τ f363 tf363 u0 hu0 r46 (iv_w i358 (by decide)) sy1_f363 (show iv sy1_f363 0 79 from by omega) kpu0_31f363) r365 (Cn := RX11) (T := TX11) (N := 32) rfl rfl mk_X11_saysDigit w_2013 w_2015 w_90 w_2016 ⟨Nat.le_of_ble_eq_true rfl, Nat.le_of_ble_eq_true rfl⟩ rfl (Nat.le_of_ble_eq_true rfl) ⟨Nat.le_of_ble_eq_true rfl, Nat.le_of_ble_eq_true rfl⟩ rfl dX11_writes_66) h (fun f367 H locs p368 h => ?_)
                obtain ⟨tf367, ogf367, ⟨sy1_f367, kpu0_31f367, ipu0_31f367, rpu0_31f367⟩⟩ := p368
                have of367 : Fr [60, 77, 60032] τ f f367 := Fr.tr of363 ogf367 (by decide) (by decide)
                exact L69 ls f367 H locs sy1_f367 (lv_cons hl 1 rfl (lv_cons hl 2 rfl (lv_cons hl 3 rfl (lv_nil hl)))) h tf367 of367 i6 (show iv sy1_f367 0 40 from by omega) kpu0_31f367 (show sy1_f367.toInt ≤ 5 * v7_2.toInt + 5 by omega)
              · have c359 : r46.toInt = 1 := congrArg Int32.toInt c356
                have i360 : iv r46 1 1 := iv_Q c359 i51 (iv_k (x := 1) (k := 1) rfl) (by decide)
                refine lv_goto (tgt := 69) hx hb dX11_writes_54 (by decide) ?_
                exact L69 ls f354 H locs sy1_f354 (lv_cons hl 1 rfl (lv_cons hl 2 rfl (lv_cons hl 3 rfl (lv_nil hl)))) h tf354 of354 i6 (show iv sy1_f354 0 40 from by omega) kpu0_31f354 (show sy1_f354.toInt ≤ 5 * v7_2.toInt + 5 by omega)
        · have c52 : r46.toInt = 0 := congrArg Int32.toInt c49
          have i53 : iv r46 0 0 := iv_Q c52 ir46 (iv_k (x := 0) (k := 0) rfl) (by decide)
          refine lv_goto (tgt := 69) hx hb dX11_writes_24 (by decide) ?_
          exact L69 ls f_7 H locs g7_u0_31 (lv_cons hl 1 rfl (lv_cons hl 2 rfl (lv_cons hl 3 rfl (lv_nil hl)))) h t_7 o_7 i6 ig7_u0_31 k7_u0_31 (show g7_u0_31.toInt ≤ 5 * v7_2.toInt + 5 by omega)
  refine lv_aload_n hx hb dX11_writes_0 rfl (lv_at hl 0 rfl) ?_
  refine lv_iconst (v := 0) hx hb dX11_writes_1 (by decide) ?_
  refine t_put C h t o hu0 (by decide) (by decide) (by decide) wf_60 fw_60 (k := 31) rfl flw_X11_417 (Or.inr ⟨_, _, _, rfl, rfl⟩) (v := .int 0) rfl rfl ⟨_, rfl, ⟨by decide, by decide⟩⟩ dX11_writes_2 (fun f369 H locs h tf369 of369 hq ha_ hn_ hk_ => ?_)
  have k370 := ha_
  refine lv_iconst (v := 0) hx hb dX11_writes_5 (by decide) ?_
  refine lv_istore_n (lv' := [(2, .int 0), (0, .ref u0), (1, .int u1)]) hx hb dX11_writes_6 rfl hl (by decide) rfl (fun ls hl => ?_)
  exact L7 9 ls f369 H locs 0 0 (by decide) (lv_cons hl 1 rfl (lv_cons hl 2 rfl (lv_cons hl 0 rfl (lv_nil hl)))) h tf369 of369 ⟨by decide, by decide⟩ ⟨by decide, by decide⟩ k370 (show 0 ≤ 5 * 0 by omega)
abbrev rm_s_X11_writtenX : Room := { frames := 6, cells := 0, slots := 0, locals := 130 }
set_option maxRecDepth 100000 in
set_option maxHeartbeats 4000000 in
theorem s_X11_writtenX (l : Launch) (D : va_G) (G : Nat → Nat) (b0 : Nat) (τ : Nat → Nat) (f : hM) (t : TI G 9 τ f) (u0 : Nat) (hu0 : τ u0 = 60) (u1 : Int32) (hu1 : iv u1 (-2147483648) 2147483647) (u2 : Int32) (hu2 : iv u2 (-2147483648) 2147483647) : mI l yX11_written cX11_written 3 (.int) rm_s_X11_writtenX D G b0 f [.ref u0, .int u1, .int u2] (fun r f1 => iv r (-2147483648) 2147483647 ∧ TI G 9 τ f1 ∧ Fr [60, 77, 60001, 60032] τ f f1) := by
  refine met2 (own := RX11) (by decide) rfl (Nat.le_of_ble_eq_true rfl) ?_
  intro p e s m args below meth c ls Q hQ C hr hini hl h
  have hl : lv_has ls 3 [(0, .ref u0), (1, .int u1), (2, .int u2)] := hl
  obtain ⟨hx, hb, hml, hown, hts, hE0, hlk⟩ := id C
  have o := Fr.rf [60, 77, 60001, 60032] τ f
  refine lv_aload_n hx hb dX11_written_0 rfl (lv_at hl 0 rfl) ?_
  refine lv_iconst (v := 0) hx hb dX11_written_1 (by decide) ?_
  refine t_put C h t o hu0 (by decide) (by decide) (by decide) wf_60 fw_60 (k := 0) rfl flw_X11_75 (Or.inr ⟨_, _, _, rfl, rfl⟩) (v := .int 0) rfl rfl ⟨_, rfl, ⟨by decide, by decide⟩⟩ dX11_written_2 (fun f1 H locs h tf1 of1 hq ha_ hn_ hk_ => ?_)
  have k2 := ha_
  refine lv_aload_n hx hb dX11_written_5 rfl (lv_at hl 0 rfl) ?_
  refine lv_iload_n hx hb dX11_written_6 rfl (lv_at hl 1 rfl) ?_
  obtain ⟨_, r3⟩ := t_rec tf1 hu0 (by decide) wf_60
  refine k_i (r_V C h hl (As := [.int u1]) (rest := []) (s_X11_isSet l D G b0 τ f1 tf1 u0 hu0 u1 hu1) r3 (Cn := RX11) (T := TX11) (N := 32) rfl rfl mk_X11_isSet w_1620 w_1622 w_51 w_1623 ⟨Nat.le_of_ble_eq_true rfl, Nat.le_of_ble_eq_true rfl⟩ rfl (Nat.le_of_ble_eq_true rfl) ⟨Nat.le_of_ble_eq_true rfl, Nat.le_of_ble_eq_true rfl⟩ rfl dX11_written_7) h (fun r4 f5 H locs p6 h => ?_)
  obtain ⟨ir4, tf5, ogf5, cnr4⟩ := p6
  have egf5 := Fr.nil2 ogf5
  subst egf5
  refine lv_if_ne (tgt := 15) hx hb dX11_written_10 (by decide) (fun c7 => ?_) (fun c7 => ?_)
  · have c8 : r4.toInt ≠ 0 := fun z_ => c7 (Int32.toInt_inj.mp z_)
    have i9 : iv r4 1 1 := iv_Nl c8 ir4 (by decide)
    have i10 := cnr4 c8
    refine lv_aload_n hx hb dX11_written_15 rfl (lv_at hl 0 rfl) ?_
    refine lv_iload_n hx hb dX11_written_16 rfl (lv_at hl 1 rfl) ?_
    obtain ⟨_, r13⟩ := t_rec tf1 hu0 (by decide) wf_60
    refine k_v (r_V C h hl (As := [.int u1]) (rest := []) (s_X11_writesX l D G b0 τ f1 tf1 u0 hu0 u1 i10) r13 (Cn := RX11) (T := TX11) (N := 32) rfl rfl mk_X11_writes w_2001 w_2003 w_88 w_2004 ⟨Nat.le_of_ble_eq_true rfl, Nat.le_of_ble_eq_true rfl⟩ rfl (Nat.le_of_ble_eq_true rfl) ⟨Nat.le_of_ble_eq_true rfl, Nat.le_of_ble_eq_true rfl⟩ rfl dX11_written_17) h (fun f15 H locs p16 h => ?_)
    obtain ⟨tf15, ogf15, ⟨sy1_f15, kpu0_31f15, ipu0_31f15, rpu0_31f15⟩⟩ := p16
    have of15 : Fr [60, 77, 60001, 60032] τ f f15 := Fr.tr of1 ogf15 (by decide) (by decide)
    refine lv_iload_n hx hb dX11_written_20 rfl (lv_at hl 2 rfl) ?_
    refine lv_iconst (v := -1) hx hb dX11_written_21 (by decide) ?_
    refine lv_icmp_ne (tgt := 32) hx hb dX11_written_22 (by decide) (fun c17 => ?_) (fun c17 => ?_)
    · have c18 : u2.toInt ≠ (-1) := fun z_ => c17 (Int32.toInt_inj.mp z_)
      refine lv_iload_n hx hb dX11_written_32 rfl (lv_at hl 2 rfl) ?_
      refine lv_i2l hx hb dX11_written_33 rfl (i_topL hu2 (fun w21 ew21 mw21 iw21 => ?_))
      refine lv_lconst (v := 0) hx hb dX11_written_34 (by decide) ?_
      refine lv_aload_n hx hb dX11_written_35 rfl (lv_at hl 0 rfl) ?_
      refine t_getfd C h tf15 hu0 (by decide) wf_60 (v := .int sy1_f15) kpu0_31f15 fl_X11_417 dX11_written_36 ?_
      refine lv_iconst (v := 1) hx hb dX11_written_39 (by decide) ?_
      refine i_subk hx hb dX11_written_40 ipu0_31f15 (k := 1) rfl (lo := (-1)) (hi := 59) (by decide) (fun z22 ez22 mz22 iz22 => ?_)
      refine lv_i2l hx hb dX11_written_41 rfl (i_topL iz22 (fun w23 ew23 mw23 iw23 => ?_))
      refine k_i (r_S C h hl (As := [.long w21, .long 0, .long w23]) (rest := []) (s_X11_isInX l D G b0 τ f15 tf15 w21 0 w23) mk_X11_isIn w_1624 w_1625 w_1626 ⟨Nat.le_of_ble_eq_true rfl, Nat.le_of_ble_eq_true rfl⟩ rfl (Nat.le_of_ble_eq_true rfl) ⟨Nat.le_of_ble_eq_true rfl, Nat.le_of_ble_eq_true rfl⟩ rfl dX11_written_42) h (fun r24 f25 H locs p26 h => ?_)
      have n27 : (0 : Int64).toInt = 0 := rfl
      obtain ⟨ir24, tf25, ogf25, cnr24, czr24⟩ := p26
      have egf25 := Fr.nil2 ogf25
      subst egf25
      refine lv_if_eq (tgt := 57) hx hb dX11_written_45 (by decide) (fun c28 => ?_) (fun c28 => ?_)
      · have c29 : r24.toInt = 0 := congrArg Int32.toInt c28
        have i30 : iv r24 0 0 := iv_Q c29 ir24 (iv_k (x := 0) (k := 0) rfl) (by decide)
        have i31 := czr24 c29
        refine lv_iconst (v := -1) hx hb dX11_written_57 (by decide) ?_
        exact u_iret C h hr hQ (⟨⟨by decide, by decide⟩, tf15, of15⟩) (Nat.le_of_ble_eq_true rfl) (Nat.le_of_ble_eq_true rfl) dX11_written_58
      · have c32 : r24.toInt ≠ 0 := fun z_ => c28 (Int32.toInt_inj.mp z_)
        have i33 : iv r24 1 1 := iv_Nl c32 ir24 (by decide)
        obtain ⟨i34, i35⟩ := cnr24 c32
        have i36 : iv u2 0 59 := ⟨by omega, by omega⟩
        refine lv_aload_n hx hb dX11_written_48 rfl (lv_at hl 0 rfl) ?_
        refine t_getr (tq := 77) C h tf15 hu0 (by decide) wf_60 rfl fl_X11_72 dX11_written_49 (fun q37 tq37 => ?_)
        refine lv_iload_n hx hb dX11_written_52 rfl (lv_at hl 2 rfl) ?_
        refine t_iald C h tf15 tq37 (by decide) wf_77 (iv_in i36 (by decide)) dX11_written_53 (fun z38 iz38 => ?_)
        refine lv_goto (tgt := 58) hx hb dX11_written_54 (by decide) ?_
        exact u_iret C h hr hQ (⟨iz38, tf15, of15⟩) (Nat.le_of_ble_eq_true rfl) (Nat.le_of_ble_eq_true rfl) dX11_written_58
    · have c19 : u2.toInt = (-1) := congrArg Int32.toInt c17
      have i20 : iv u2 (-1) (-1) := iv_Q c19 hu2 (iv_k (x := (-1)) (k := (-1)) rfl) (by decide)
      refine lv_aload_n hx hb dX11_written_25 rfl (lv_at hl 0 rfl) ?_
      refine t_getfd C h tf15 hu0 (by decide) wf_60 (v := .int sy1_f15) kpu0_31f15 fl_X11_417 dX11_written_26 ?_
      refine lv_goto (tgt := 58) hx hb dX11_written_29 (by decide) ?_
      exact u_iret C h hr hQ (⟨(iv_w ipu0_31f15 (by decide)), tf15, of15⟩) (Nat.le_of_ble_eq_true rfl) (Nat.le_of_ble_eq_true rfl) dX11_written_58
  · have c11 : r4.toInt = 0 := congrArg Int32.toInt c7
    have i12 : iv r4 0 0 := iv_Q c11 ir4 (iv_k (x := 0) (k := 0) rfl) (by decide)
    refine lv_iconst (v := -1) hx hb dX11_written_13 (by decide) ?_
    exact u_iret C h hr hQ (⟨⟨by decide, by decide⟩, tf1, of1⟩) (Nat.le_of_ble_eq_true rfl) (Nat.le_of_ble_eq_true rfl) dX11_written_14
