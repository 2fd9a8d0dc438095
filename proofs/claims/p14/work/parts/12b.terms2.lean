theorem dX10_convolved_0 : decode cX10_convolved 0 = .ok (.aload_n 0, 1) := by decide +kernel
theorem dX10_convolved_1 : decode cX10_convolved 1 = .ok (.getfield 19, 3) := by decide +kernel
theorem dX10_convolved_4 : decode cX10_convolved 4 = .ok (.iload_n 1, 1) := by decide +kernel
theorem dX10_convolved_5 : decode cX10_convolved 5 = .ok (.invokevirtual 110, 3) := by decide +kernel
theorem dX10_convolved_8 : decode cX10_convolved 8 = .ok (.astore 6, 2) := by decide +kernel
theorem dX10_convolved_10 : decode cX10_convolved 10 = .ok (.aload_n 0, 1) := by decide +kernel
theorem dX10_convolved_11 : decode cX10_convolved 11 = .ok (.getfield 19, 3) := by decide +kernel
theorem dX10_convolved_14 : decode cX10_convolved 14 = .ok (.iload_n 3, 1) := by decide +kernel
theorem dX10_convolved_15 : decode cX10_convolved 15 = .ok (.invokevirtual 110, 3) := by decide +kernel
theorem dX10_convolved_18 : decode cX10_convolved 18 = .ok (.astore 7, 2) := by decide +kernel
theorem dX10_convolved_20 : decode cX10_convolved 20 = .ok (.aload 6, 2) := by decide +kernel
theorem dX10_convolved_22 : decode cX10_convolved 22 = .ok (.ifnull 31, 3) := by decide +kernel
theorem dX10_convolved_53 : decode cX10_convolved 53 = .ok (.iconst (-1), 1) := by decide +kernel
theorem dX10_convolved_25 : decode cX10_convolved 25 = .ok (.aload 7, 2) := by decide +kernel
theorem dX10_convolved_27 : decode cX10_convolved 27 = .ok (.ifnull 26, 3) := by decide +kernel
theorem dX10_convolved_30 : decode cX10_convolved 30 = .ok (.iload_n 2, 1) := by decide +kernel
theorem dX10_convolved_31 : decode cX10_convolved 31 = .ok (.invokestatic 195, 3) := by decide +kernel
theorem dX10_convolved_34 : decode cX10_convolved 34 = .ok (.ifCond .eq 19, 3) := by decide +kernel
theorem dX10_convolved_37 : decode cX10_convolved 37 = .ok (.iload 4, 2) := by decide +kernel
theorem dX10_convolved_39 : decode cX10_convolved 39 = .ok (.invokestatic 195, 3) := by decide +kernel
theorem dX10_convolved_42 : decode cX10_convolved 42 = .ok (.ifCond .eq 11, 3) := by decide +kernel
theorem dX10_convolved_45 : decode cX10_convolved 45 = .ok (.iload 5, 2) := by decide +kernel
theorem dX10_convolved_47 : decode cX10_convolved 47 = .ok (.invokestatic 179, 3) := by decide +kernel
theorem dX10_convolved_50 : decode cX10_convolved 50 = .ok (.ifCond .ne 5, 3) := by decide +kernel
theorem dX10_convolved_55 : decode cX10_convolved 55 = .ok (.lconst 0, 1) := by decide +kernel
theorem dX10_convolved_56 : decode cX10_convolved 56 = .ok (.lstore 8, 2) := by decide +kernel
theorem dX10_convolved_58 : decode cX10_convolved 58 = .ok (.iconst 0, 1) := by decide +kernel
theorem dX10_convolved_59 : decode cX10_convolved 59 = .ok (.istore 10, 2) := by decide +kernel
theorem dX10_convolved_61 : decode cX10_convolved 61 = .ok (.iload 10, 2) := by decide +kernel
theorem dX10_convolved_63 : decode cX10_convolved 63 = .ok (.iload 5, 2) := by decide +kernel
theorem dX10_convolved_65 : decode cX10_convolved 65 = .ok (.if_icmp .gt 42, 3) := by decide +kernel
theorem dX10_convolved_68 : decode cX10_convolved 68 = .ok (.lload 8, 2) := by decide +kernel
theorem dX10_convolved_70 : decode cX10_convolved 70 = .ok (.aload_n 0, 1) := by decide +kernel
theorem dX10_convolved_71 : decode cX10_convolved 71 = .ok (.aload 6, 2) := by decide +kernel
theorem dX10_convolved_73 : decode cX10_convolved 73 = .ok (.iload_n 2, 1) := by decide +kernel
theorem dX10_convolved_74 : decode cX10_convolved 74 = .ok (.iload 10, 2) := by decide +kernel
theorem dX10_convolved_76 : decode cX10_convolved 76 = .ok (.invokevirtual 198, 3) := by decide +kernel
theorem dX10_convolved_79 : decode cX10_convolved 79 = .ok (.i2l, 1) := by decide +kernel
theorem dX10_convolved_80 : decode cX10_convolved 80 = .ok (.aload_n 0, 1) := by decide +kernel
theorem dX10_convolved_81 : decode cX10_convolved 81 = .ok (.aload 7, 2) := by decide +kernel
theorem dX10_convolved_83 : decode cX10_convolved 83 = .ok (.iload 4, 2) := by decide +kernel
theorem dX10_convolved_85 : decode cX10_convolved 85 = .ok (.iload 5, 2) := by decide +kernel
theorem dX10_convolved_87 : decode cX10_convolved 87 = .ok (.iload 10, 2) := by decide +kernel
theorem dX10_convolved_89 : decode cX10_convolved 89 = .ok (.isub, 1) := by decide +kernel
theorem dX10_convolved_90 : decode cX10_convolved 90 = .ok (.invokevirtual 198, 3) := by decide +kernel
theorem dX10_convolved_93 : decode cX10_convolved 93 = .ok (.i2l, 1) := by decide +kernel
theorem dX10_convolved_94 : decode cX10_convolved 94 = .ok (.invokestatic 245, 3) := by decide +kernel
theorem dX10_convolved_97 : decode cX10_convolved 97 = .ok (.i2l, 1) := by decide +kernel
theorem dX10_convolved_98 : decode cX10_convolved 98 = .ok (.ladd, 1) := by decide +kernel
theorem dX10_convolved_99 : decode cX10_convolved 99 = .ok (.lstore 8, 2) := by decide +kernel
theorem dX10_convolved_101 : decode cX10_convolved 101 = .ok (.iinc 10 1, 3) := by decide +kernel
theorem dX10_convolved_104 : decode cX10_convolved 104 = .ok (.goto (-43), 3) := by decide +kernel
theorem dX10_convolved_107 : decode cX10_convolved 107 = .ok (.lload 8, 2) := by decide +kernel
theorem dX10_convolved_109 : decode cX10_convolved 109 = .ok (.invokestatic 228, 3) := by decide +kernel
theorem dX10_convolved_54 : decode cX10_convolved 54 = .ok (.ireturn, 1) := by decide +kernel
theorem dX10_convolved_112 : decode cX10_convolved 112 = .ok (.ireturn, 1) := by decide +kernel
theorem dX10_least_0 : decode cX10_least 0 = .ok (.aload_n 0, 1) := by decide +kernel
theorem dX10_least_1 : decode cX10_least 1 = .ok (.getfield 19, 3) := by decide +kernel
theorem dX10_least_4 : decode cX10_least 4 = .ok (.iload_n 1, 1) := by decide +kernel
theorem dX10_least_5 : decode cX10_least 5 = .ok (.invokevirtual 110, 3) := by decide +kernel
theorem dX10_least_8 : decode cX10_least 8 = .ok (.astore 4, 2) := by decide +kernel
theorem dX10_least_10 : decode cX10_least 10 = .ok (.aload 4, 2) := by decide +kernel
theorem dX10_least_12 : decode cX10_least 12 = .ok (.ifnull 19, 3) := by decide +kernel
theorem dX10_least_31 : decode cX10_least 31 = .ok (.ldc 218, 2) := by decide +kernel
theorem dX10_least_15 : decode cX10_least 15 = .ok (.iload_n 2, 1) := by decide +kernel
theorem dX10_least_16 : decode cX10_least 16 = .ok (.invokestatic 195, 3) := by decide +kernel
theorem dX10_least_19 : decode cX10_least 19 = .ok (.ifCond .eq 12, 3) := by decide +kernel
theorem dX10_least_22 : decode cX10_least 22 = .ok (.iload_n 3, 1) := by decide +kernel
theorem dX10_least_23 : decode cX10_least 23 = .ok (.iconst 0, 1) := by decide +kernel
theorem dX10_least_24 : decode cX10_least 24 = .ok (.iconst 1, 1) := by decide +kernel
theorem dX10_least_25 : decode cX10_least 25 = .ok (.invokestatic 87, 3) := by decide +kernel
theorem dX10_least_28 : decode cX10_least 28 = .ok (.ifCond .ne 6, 3) := by decide +kernel
theorem dX10_least_34 : decode cX10_least 34 = .ok (.aload_n 0, 1) := by decide +kernel
theorem dX10_least_35 : decode cX10_least 35 = .ok (.getfield 56, 3) := by decide +kernel
theorem dX10_least_38 : decode cX10_least 38 = .ok (.aload_n 0, 1) := by decide +kernel
theorem dX10_least_39 : decode cX10_least 39 = .ok (.aload 4, 2) := by decide +kernel
theorem dX10_least_41 : decode cX10_least 41 = .ok (.invokevirtual 320, 3) := by decide +kernel
theorem dX10_least_44 : decode cX10_least 44 = .ok (.iload_n 2, 1) := by decide +kernel
theorem dX10_least_45 : decode cX10_least 45 = .ok (.iload_n 3, 1) := by decide +kernel
theorem dX10_least_46 : decode cX10_least 46 = .ok (.invokevirtual 339, 3) := by decide +kernel
theorem dX10_least_49 : decode cX10_least 49 = .ok (.aload_n 0, 1) := by decide +kernel
theorem dX10_least_50 : decode cX10_least 50 = .ok (.getfield 56, 3) := by decide +kernel
theorem dX10_least_53 : decode cX10_least 53 = .ok (.invokevirtual 342, 3) := by decide +kernel
theorem w_1091 : Cond.methodLink "QuarterWalks" 342 yX3_smallest ∈ wAll := wI5 36 (by decide +kernel) (by decide +kernel)
theorem w_1093 : Cond.selects yX3_smallest.cls yX3_smallest yX3_smallest ∈ wAll := wI5 38 (by decide +kernel) (by decide +kernel)
theorem mk_X3_smallest : mk yX3_smallest 0 := ⟨by decide +kernel, w_105⟩
theorem w_1092 : Cond.instanceMethod yX3_smallest ∈ wAll := wI5 37 (by decide +kernel) (by decide +kernel)
theorem w_1094 : Cond.code yX3_smallest cX3_smallest 5 (some .int) ∈ wAll := wI5 39 (by decide +kernel) (by decide +kernel)
theorem dX10_least_33 : decode cX10_least 33 = .ok (.ireturn, 1) := by decide +kernel
theorem dX10_least_56 : decode cX10_least 56 = .ok (.ireturn, 1) := by decide +kernel
abbrev rm_s_X10_convolved : Room := { frames := 7, cells := 2, slots := 610, locals := 155 }
set_option maxRecDepth 100000 in
set_option maxHeartbeats 4000000 in
theorem s_X10_convolved (l : Launch) (D : va_G) (G : Nat → Nat) (b0 : Nat) (τ : Nat → Nat) (f : hM) (t : TI G 9 τ f) (u0 : Nat) (hu0 : τ u0 = 10) (u1 : Int32) (hu1 : iv u1 (-2147483648) 2147483647) (u2 : Int32) (hu2 : iv u2 (-2147483648) 2147483647) (u3 : Int32) (hu3 : iv u3 (-2147483648) 2147483647) (u4 : Int32) (hu4 : iv u4 (-2147483648) 2147483647) (u5 : Int32) (hu5 : iv u5 (-2147483648) 2147483647) (gq rq mq : Nat) (hgq : τ gq = 20) (kq2 : atp f u0 (fd 2 (.ref gq))) (hGJ : GJ τ f gq rq mq) : mI l yX10_convolved cX10_convolved 11 (.int) rm_s_X10_convolved D G b0 f [.ref u0, .int u1, .int u2, .int u3, .int u4, .int u5] (fun r f1 => (∃ τ1, Ex τ τ1 ∧ iv r (-2147483648) 2147483647 ∧ TI G 9 τ1 f1 ∧ Fr [0, 1, 3, 20, 21, 22, 23, 24, 25, 1004, 20001, 20002, 20007, 20008, 20009, 20010, 20011, 22001, 22002, 22003, 22004, 23001, 23002, 23003, 23004] τ f f1 ∧ GJ τ1 f1 gq rq mq)) := by
  refine met2 (own := RX10) (by decide) rfl (Nat.le_of_ble_eq_true rfl) ?_
  intro p e s m args below meth c ls Q hQ C hr hini hl h
  have hl : lv_has ls 11 [(0, .ref u0), (1, .int u1), (2, .int u2), (3, .int u3), (4, .int u4), (5, .int u5)] := hl
  obtain ⟨hx, hb, hml, hown, hts, hE0, hlk⟩ := id C
  have o := Fr.rf [0, 1, 3, 20, 21, 22, 23, 24, 25, 1004, 20001, 20002, 20007, 20008, 20009, 20010, 20011, 22001, 22002, 22003, 22004, 23001, 23002, 23003, 23004] τ f
  refine lv_aload_n hx hb dX10_convolved_0 rfl (lv_at hl 0 rfl) ?_
  refine t_getr (tq := 12) C h t hu0 (by decide) wf_10 rfl fl_X10_19 dX10_convolved_1 (fun qa_1 tqa_1 => ?_)
  refine lv_iload_n hx hb dX10_convolved_4 rfl (lv_at hl 1 rfl) ?_
  obtain ⟨_, ra_2⟩ := t_rec t tqa_1 (by decide) wf_12
  refine k_q (r_V C h hl (As := [.int u1]) (rest := []) (s_X0_findN l D G b0 τ f t qa_1 tqa_1 u1 hu1) ra_2 (Cn := RX0) (T := TX0) (N := 6) rfl rfl mk_X0_find w_594 w_595 w_596 w_597 ⟨Nat.le_of_ble_eq_true rfl, Nat.le_of_ble_eq_true rfl⟩ rfl (Nat.le_of_ble_eq_true rfl) ⟨Nat.le_of_ble_eq_true rfl, Nat.le_of_ble_eq_true rfl⟩ rfl dX10_convolved_5) h (fun ra_3 fa_4 H locs pa_5 h => ?_)
  obtain ⟨qra_3, tfa_4, ogfa_4, ocra_3⟩ := pa_5
  have egfa_4 := Fr.nil2 ogfa_4
  subst egfa_4
  have tra_3 := qra_3
  refine lv_astoreO (lv' := [(6, va_rf ra_3), (0, .ref u0), (1, .int u1), (2, .int u2), (3, .int u3), (4, .int u4), (5, .int u5)]) hx hb dX10_convolved_8 hl (by decide) rfl (fun ls hl => ?_)
  refine lv_aload_n hx hb dX10_convolved_10 rfl (lv_at hl 1 rfl) ?_
  refine t_getr (tq := 12) C h t hu0 (by decide) wf_10 rfl fl_X10_19 dX10_convolved_11 (fun qa_7 tqa_7 => ?_)
  refine lv_iload_n hx hb dX10_convolved_14 rfl (lv_at hl 4 rfl) ?_
  obtain ⟨_, ra_8⟩ := t_rec t tqa_7 (by decide) wf_12
  refine k_q (r_V C h hl (As := [.int u3]) (rest := []) (s_X0_findN l D G b0 τ f t qa_7 tqa_7 u3 hu3) ra_8 (Cn := RX0) (T := TX0) (N := 6) rfl rfl mk_X0_find w_594 w_595 w_596 w_597 ⟨Nat.le_of_ble_eq_true rfl, Nat.le_of_ble_eq_true rfl⟩ rfl (Nat.le_of_ble_eq_true rfl) ⟨Nat.le_of_ble_eq_true rfl, Nat.le_of_ble_eq_true rfl⟩ rfl dX10_convolved_15) h (fun ra_9 fa_10 H locs pa_11 h => ?_)
  obtain ⟨qra_9, tfa_10, ogfa_10, ocra_9⟩ := pa_11
  have egfa_10 := Fr.nil2 ogfa_10
  subst egfa_10
  have tra_9 := qra_9
  refine lv_astoreO (lv' := [(7, va_rf ra_9), (6, va_rf ra_3), (0, .ref u0), (1, .int u1), (2, .int u2), (3, .int u3), (4, .int u4), (5, .int u5)]) hx hb dX10_convolved_18 hl (by decide) (by simp [va_rfcat]) (fun ls hl => ?_)
  refine lv_aloadO hx hb dX10_convolved_20 (lv_at hl 1 rfl) ?_
  rcases va_rfc ra_3 with eqa_13 | ⟨qa_13, eqa_13⟩
  · subst eqa_13
    have hl : lv_has ls 11 [(7, va_rf ra_9), (6, .null), (0, .ref u0), (1, .int u1), (2, .int u2), (3, .int u3), (4, .int u4), (5, .int u5)] := hl
    show W _ _ _ _ _ _ _ _ _ _ _ _ _ _ _ (F0 m 22 ls [.null])
    refine lv_ifnullN (tgt := 53) hx hb dX10_convolved_22 (by decide) ?_
    refine lv_iconst (v := -1) hx hb dX10_convolved_53 (by decide) ?_
    exact u_iret C h hr hQ (⟨τ, (Ex.rf τ), ⟨by decide, by decide⟩, t, o, hGJ⟩) (Nat.le_of_ble_eq_true rfl) (Nat.le_of_ble_eq_true rfl) dX10_convolved_54
  · subst eqa_13
    have tqa_13 : τ qa_13 = 1 := tra_3 _ rfl
    have ia_14 : iv u1 0 7 := ocra_3 _ rfl
    have hl : lv_has ls 11 [(7, va_rf ra_9), (6, .ref qa_13), (0, .ref u0), (1, .int u1), (2, .int u2), (3, .int u3), (4, .int u4), (5, .int u5)] := hl
    show W _ _ _ _ _ _ _ _ _ _ _ _ _ _ _ (F0 m 22 ls [.ref qa_13])
    refine lv_ifnull hx hb dX10_convolved_22 ?_
    refine lv_aloadO hx hb dX10_convolved_25 (lv_at hl 0 rfl) ?_
    rcases va_rfc ra_9 with eqa_15 | ⟨qa_15, eqa_15⟩
    · subst eqa_15
      have hl : lv_has ls 11 [(7, .null), (6, .ref qa_13), (0, .ref u0), (1, .int u1), (2, .int u2), (3, .int u3), (4, .int u4), (5, .int u5)] := hl
      show W _ _ _ _ _ _ _ _ _ _ _ _ _ _ _ (F0 m 27 ls [.null])
      refine lv_ifnullN (tgt := 53) hx hb dX10_convolved_27 (by decide) ?_
      refine lv_iconst (v := -1) hx hb dX10_convolved_53 (by decide) ?_
      exact u_iret C h hr hQ (⟨τ, (Ex.rf τ), ⟨by decide, by decide⟩, t, o, hGJ⟩) (Nat.le_of_ble_eq_true rfl) (Nat.le_of_ble_eq_true rfl) dX10_convolved_54
    · subst eqa_15
      have tqa_15 : τ qa_15 = 1 := tra_9 _ rfl
      have ia_16 : iv u3 0 7 := ocra_9 _ rfl
      have hl : lv_has ls 11 [(7, .ref qa_15), (6, .ref qa_13), (0, .ref u0), (1, .int u1), (2, .int u2), (3, .int u3), (4, .int u4), (5, .int u5)] := hl
      show W _ _ _ _ _ _ _ _ _ _ _ _ _ _ _ (F0 m 27 ls [.ref qa_15])
      refine lv_ifnull hx hb dX10_convolved_27 ?_
      refine lv_iload_n hx hb dX10_convolved_30 rfl (lv_at hl 4 rfl) ?_
      refine k_i (r_S C h hl (As := [.int u2]) (rest := []) (s_X10_isKind l D G b0 τ f t u2 hu2) mk_X10_isKind w_721 w_722 w_723 ⟨Nat.le_of_ble_eq_true rfl, Nat.le_of_ble_eq_true rfl⟩ rfl (Nat.le_of_ble_eq_true rfl) ⟨Nat.le_of_ble_eq_true rfl, Nat.le_of_ble_eq_true rfl⟩ rfl dX10_convolved_31) h (fun ra_17 fa_18 H locs pa_19 h => ?_)
      obtain ⟨ira_17, tfa_18, ogfa_18, cnra_17⟩ := pa_19
      have egfa_18 := Fr.nil2 ogfa_18
      subst egfa_18
      refine lv_if_eq (tgt := 53) hx hb dX10_convolved_34 (by decide) (fun ca_20 => ?_) (fun ca_20 => ?_)
      · have ca_21 : ra_17.toInt = 0 := congrArg Int32.toInt ca_20
        have ia_22 : iv ra_17 0 0 := iv_Q ca_21 ira_17 (iv_k (x := 0) (k := 0) rfl) (by decide)
        refine lv_iconst (v := -1) hx hb dX10_convolved_53 (by decide) ?_
        exact u_iret C h hr hQ (⟨τ, (Ex.rf τ), ⟨by decide, by decide⟩, t, o, hGJ⟩) (Nat.le_of_ble_eq_true rfl) (Nat.le_of_ble_eq_true rfl) dX10_convolved_54
      · have ca_21 : ra_17.toInt ≠ 0 := fun z_ => ca_20 (Int32.toInt_inj.mp z_)
        have ia_22 : iv ra_17 1 1 := iv_Nl ca_21 ira_17 (by decide)
        have ia_23 := cnra_17 ca_21
        refine lv_iload hx hb dX10_convolved_37 (lv_at hl 6 rfl) ?_
        refine k_i (r_S C h hl (As := [.int u4]) (rest := []) (s_X10_isKind l D G b0 τ f t u4 hu4) mk_X10_isKind w_721 w_722 w_723 ⟨Nat.le_of_ble_eq_true rfl, Nat.le_of_ble_eq_true rfl⟩ rfl (Nat.le_of_ble_eq_true rfl) ⟨Nat.le_of_ble_eq_true rfl, Nat.le_of_ble_eq_true rfl⟩ rfl dX10_convolved_39) h (fun ra_24 fa_25 H locs pa_26 h => ?_)
        obtain ⟨ira_24, tfa_25, ogfa_25, cnra_24⟩ := pa_26
        have egfa_25 := Fr.nil2 ogfa_25
        subst egfa_25
        refine lv_if_eq (tgt := 53) hx hb dX10_convolved_42 (by decide) (fun ca_27 => ?_) (fun ca_27 => ?_)
        · have ca_28 : ra_24.toInt = 0 := congrArg Int32.toInt ca_27
          have ia_29 : iv ra_24 0 0 := iv_Q ca_28 ira_24 (iv_k (x := 0) (k := 0) rfl) (by decide)
          refine lv_iconst (v := -1) hx hb dX10_convolved_53 (by decide) ?_
          exact u_iret C h hr hQ (⟨τ, (Ex.rf τ), ⟨by decide, by decide⟩, t, o, hGJ⟩) (Nat.le_of_ble_eq_true rfl) (Nat.le_of_ble_eq_true rfl) dX10_convolved_54
        · have ca_28 : ra_24.toInt ≠ 0 := fun z_ => ca_27 (Int32.toInt_inj.mp z_)
          have ia_29 : iv ra_24 1 1 := iv_Nl ca_28 ira_24 (by decide)
          have ia_30 := cnra_24 ca_28
          refine lv_iload hx hb dX10_convolved_45 (lv_at hl 7 rfl) ?_
          refine k_i (r_S C h hl (As := [.int u5]) (rest := []) (s_X10_isLength l D G b0 τ f t u5 hu5) mk_X10_isLength w_653 w_654 w_655 ⟨Nat.le_of_ble_eq_true rfl, Nat.le_of_ble_eq_true rfl⟩ rfl (Nat.le_of_ble_eq_true rfl) ⟨Nat.le_of_ble_eq_true rfl, Nat.le_of_ble_eq_true rfl⟩ rfl dX10_convolved_47) h (fun ra_31 fa_32 H locs pa_33 h => ?_)
          obtain ⟨ira_31, tfa_32, ogfa_32, cnra_31⟩ := pa_33
          have egfa_32 := Fr.nil2 ogfa_32
          subst egfa_32
          refine lv_if_ne (tgt := 55) hx hb dX10_convolved_50 (by decide) (fun ca_34 => ?_) (fun ca_34 => ?_)
          · have ca_35 : ra_31.toInt ≠ 0 := fun z_ => ca_34 (Int32.toInt_inj.mp z_)
            have ia_36 : iv ra_31 1 1 := iv_Nl ca_35 ira_31 (by decide)
            have ia_37 := cnra_31 ca_35
            refine lv_lconst (v := 0) hx hb dX10_convolved_55 (by decide) ?_
            refine lv_lstore (lv' := [(8, .long 0), (7, .ref qa_15), (6, .ref qa_13), (0, .ref u0), (1, .int u1), (2, .int u2), (3, .int u3), (4, .int u4), (5, .int u5)]) hx hb dX10_convolved_56 hl (by decide) rfl (fun ls hl => ?_)
            refine lv_iconst (v := 0) hx hb dX10_convolved_58 (by decide) ?_
            refine lv_istore (lv' := [(10, .int 0), (8, .long 0), (7, .ref qa_15), (6, .ref qa_13), (0, .ref u0), (1, .int u1), (2, .int u2), (3, .int u3), (4, .int u4), (5, .int u5)]) hx hb dX10_convolved_59 hl (by decide) rfl (fun ls hl => ?_)
            refine lv_iload hx hb dX10_convolved_61 (lv_at hl 0 rfl) ?_
            refine lv_iload hx hb dX10_convolved_63 (lv_at hl 9 rfl) ?_
            refine lv_icmp_gt (tgt := 107) hx hb dX10_convolved_65 (by decide) (fun ca_38 => ?_) (fun ca_38 => ?_)
            · have ca_39 : u5.toInt < 0 := Int32.lt_iff_toInt_lt.mp ca_38
              exact (iv_cl_ ca_39 ia_37 (iv_k (x := 0) (k := 0) rfl) (by decide)).elim
            · have ca_39 : 0 ≤ u5.toInt := Int32.le_iff_toInt_le.mp (iv_nlt ca_38)
              refine lv_lload hx hb dX10_convolved_68 (lv_at hl 1 rfl) ?_
              refine lv_aload_n hx hb dX10_convolved_70 rfl (lv_at hl 4 rfl) ?_
              refine lv_aload hx hb dX10_convolved_71 (lv_at hl 3 rfl) ?_
              refine lv_iload_n hx hb dX10_convolved_73 rfl (lv_at hl 6 rfl) ?_
              refine lv_iload hx hb dX10_convolved_74 (lv_at hl 0 rfl) ?_
              obtain ⟨_, ra_40⟩ := t_rec t hu0 (by decide) wf_10
              refine k_i (r_V C h hl (As := [.ref qa_13, .int u2, .int 0]) (rest := [.long 0]) (s_X10_term l D G b0 τ f t u0 hu0 qa_13 tqa_13 u2 ia_23 0 (iv_w (iv_k (x := 0) (k := 0) rfl) (by decide)) gq rq mq hgq kq2 hGJ) ra_40 (Cn := RX10) (T := TX10) (N := 10) rfl rfl mk_X10_term w_724 w_726 w_17 w_727 ⟨Nat.le_of_ble_eq_true rfl, Nat.le_of_ble_eq_true rfl⟩ rfl (Nat.le_of_ble_eq_true rfl) ⟨Nat.le_of_ble_eq_true rfl, Nat.le_of_ble_eq_true rfl⟩ rfl dX10_convolved_76) h (fun ra_41 fa_42 H locs pa_43 h => ?_)
              have na_44 : (0 : Int32).toInt = 0 := rfl
              obtain ⟨τfa_42, exfa_42, ira_41, tfa_42, ogfa_42, x0ra_41, ⟨ztfa_42, ttfa_42, ktfa_42⟩, gjfa_42⟩ := pa_43
              have ofa_42 : Fr [0, 1, 3, 20, 21, 22, 23, 24, 25, 1004, 20001, 20002, 20007, 20008, 20009, 20010, 20011, 22001, 22002, 22003, 22004, 23001, 23002, 23003, 23004] τ f fa_42 := Fr.tr o ogfa_42 (by decide) (by decide)
              have ka_45 := atp.fr kq2 ogfa_42 hu0 (by decide)
              have Ofa_42 : Fr [0, 1, 3, 20, 21, 22, 23, 24, 25, 1004, 20001, 20002, 20007, 20008, 20009, 20010, 20011, 22001, 22002, 22003, 22004, 23001, 23002, 23003, 23004] τ f fa_42 := ofa_42
              have xfa_42 : Ex τ τfa_42 := exfa_42
              have ha_46 : τfa_42 u0 = 10 := Ex.at exfa_42 hu0 (by decide)
              have ha_47 : τfa_42 qa_13 = 1 := Ex.at exfa_42 tqa_13 (by decide)
              have ha_48 : τfa_42 qa_15 = 1 := Ex.at exfa_42 tqa_15 (by decide)
              have ha_49 : τfa_42 gq = 20 := Ex.at exfa_42 hgq (by decide)
              have ofa_42z := Fr.rf [0, 1, 3, 20, 21, 22, 23, 24, 25, 1004, 20001, 20002, 20007, 20008, 20009, 20010, 20011, 22001, 22002, 22003, 22004, 23001, 23002, 23003, 23004] τfa_42 fa_42
              refine lv_i2l hx hb dX10_convolved_79 rfl (i_topL ira_41 (fun wa_50 ewa_50 mwa_50 iwa_50 => ?_))
              refine lv_aload_n hx hb dX10_convolved_80 rfl (lv_at hl 4 rfl) ?_
              refine lv_aload hx hb dX10_convolved_81 (lv_at hl 2 rfl) ?_
              refine lv_iload hx hb dX10_convolved_83 (lv_at hl 8 rfl) ?_
              refine lv_iload hx hb dX10_convolved_85 (lv_at hl 9 rfl) ?_
              refine lv_iload hx hb dX10_convolved_87 (lv_at hl 0 rfl) ?_
              refine i_subk hx hb dX10_convolved_89 ia_37 (k := 0) rfl (lo := 0) (hi := 60) (by decide) (fun za_51 eza_51 mza_51 iza_51 => ?_)
              obtain ⟨_, ra_52⟩ := t_rec tfa_42 ha_46 (by decide) wf_10
              refine k_i (r_V C h hl (As := [.ref qa_15, .int u4, .int za_51]) (rest := [.long wa_50, .long 0]) (s_X10_term l D G b0 τfa_42 fa_42 tfa_42 u0 ha_46 qa_15 ha_48 u4 ia_30 za_51 iza_51 gq rq mq ha_49 ka_45 gjfa_42) ra_52 (Cn := RX10) (T := TX10) (N := 10) rfl rfl mk_X10_term w_724 w_726 w_17 w_727 ⟨Nat.le_of_ble_eq_true rfl, Nat.le_of_ble_eq_true rfl⟩ rfl (Nat.le_of_ble_eq_true rfl) ⟨Nat.le_of_ble_eq_true rfl, Nat.le_of_ble_eq_true rfl⟩ rfl dX10_convolved_90) h (fun ra_53 fa_54 H locs pa_55 h => ?_)
              obtain ⟨τfa_54, exfa_54, ira_53, tfa_54, ogfa_54, x0ra_53, ⟨ztfa_54, ttfa_54, ktfa_54⟩, gjfa_54⟩ := pa_55
              have ofa_54 : Fr [0, 1, 3, 20, 21, 22, 23, 24, 25, 1004, 20001, 20002, 20007, 20008, 20009, 20010, 20011, 22001, 22002, 22003, 22004, 23001, 23002, 23003, 23004] τfa_42 fa_42 fa_54 := Fr.tr ofa_42z ogfa_54 (by decide) (by decide)
              have ka_56 := atp.fr ka_45 ogfa_54 ha_46 (by decide)
              have ka_57 := x0ra_53 _ _ ha_47 ktfa_42
              have Ofa_54 : Fr [0, 1, 3, 20, 21, 22, 23, 24, 25, 1004, 20001, 20002, 20007, 20008, 20009, 20010, 20011, 22001, 22002, 22003, 22004, 23001, 23002, 23003, 23004] τ f fa_54 := Fr.tr Ofa_42 (Fr.cv xfa_42 ofa_54 (by decide) (fun _ h_ => h_)) (fun _ h_ => h_) (fun _ h_ => h_)
              have xfa_54 : Ex τ τfa_54 := Ex.tr xfa_42 exfa_54
              have ha_58 : τfa_54 u0 = 10 := Ex.at exfa_54 ha_46 (by decide)
              have ha_59 : τfa_54 qa_13 = 1 := Ex.at exfa_54 ha_47 (by decide)
              have ha_60 : τfa_54 qa_15 = 1 := Ex.at exfa_54 ha_48 (by decide)
              have ha_61 : τfa_54 gq = 20 := Ex.at exfa_54 ha_49 (by decide)
              have ha_62 : τfa_54 ztfa_42 = 3 := Ex.at exfa_54 ttfa_42 (by decide)
              have ofa_54z := Fr.rf [0, 1, 3, 20, 21, 22, 23, 24, 25, 1004, 20001, 20002, 20007, 20008, 20009, 20010, 20011, 22001, 22002, 22003, 22004, 23001, 23002, 23003, 23004] τfa_54 fa_54
              refine lv_i2l hx hb dX10_convolved_93 rfl (i_topL ira_53 (fun wa_63 ewa_63 mwa_63 iwa_63 => ?_))
              refine k_i (r_S C h hl (As := [.long wa_50, .long wa_63]) (rest := [.long 0]) (s_X10_times l D G b0 τfa_54 fa_54 tfa_54 wa_50 wa_63) mk_X10_times w_822 w_807 w_808 ⟨Nat.le_of_ble_eq_true rfl, Nat.le_of_ble_eq_true rfl⟩ rfl (Nat.le_of_ble_eq_true rfl) ⟨Nat.le_of_ble_eq_true rfl, Nat.le_of_ble_eq_true rfl⟩ rfl dX10_convolved_94) h (fun ra_64 fa_65 H locs pa_66 h => ?_)
              obtain ⟨ira_64, tfa_65, ogfa_65⟩ := pa_66
              have egfa_65 := Fr.nil2 ogfa_65
              subst egfa_65
              refine lv_i2l hx hb dX10_convolved_97 rfl (i_topL ira_64 (fun wa_67 ewa_67 mwa_67 iwa_67 => ?_))
              refine lv_ladd hx hb dX10_convolved_98 (lv_topl (fun wa_68 ewa_68 => ?_))
              refine lv_lstore (lv' := [(8, .long wa_68), (10, .int 0), (7, .ref qa_15), (6, .ref qa_13), (0, .ref u0), (1, .int u1), (2, .int u2), (3, .int u3), (4, .int u4), (5, .int u5)]) hx hb dX10_convolved_99 hl (by decide) rfl (fun ls hl => ?_)
              refine lv_iinc (v := 1) (lv' := [(10, .int 1), (8, .long wa_68), (7, .ref qa_15), (6, .ref qa_13), (0, .ref u0), (1, .int u1), (2, .int u2), (3, .int u3), (4, .int u4), (5, .int u5)]) hx hb dX10_convolved_101 hl (k := 1) rfl (by decide) (by decide) rfl (fun ls hl => ?_)
              refine lv_goto (tgt := 61) hx hb dX10_convolved_104 (by decide) ?_
              have L61 : ∀ (n61 : Nat) (ls : Array Slot) (f_61 : hM) (H : Heap) (locs : List Loc) (v61_8 : Int64) (v61_10 : Int32) (g61_qa_13_3 : Nat) (g61_qa_15_3 : Nat), 61 - v61_10.toInt < (n61 : Int) → lv_has ls 11 [(0, .ref u0), (2, .int u2), (4, .int u4), (5, .int u5), (6, .ref qa_13), (7, .ref qa_15), (8, .long v61_8), (10, .int v61_10)] → hw D b0 s.heap f_61 H locs → TI G 9 τfa_54 f_61 → Fr [0, 1, 3, 20, 21, 22, 23, 24, 25, 1004, 20001, 20002, 20007, 20008, 20009, 20010, 20011, 22001, 22002, 22003, 22004, 23001, 23002, 23003, 23004] τfa_54 fa_54 f_61 → iv u2 0 4 → iv u4 0 4 → iv u5 0 60 → iv v61_10 1 61 → τfa_54 g61_qa_13_3 = 3 → τfa_54 g61_qa_15_3 = 3 → atp f_61 u0 (fd 2 (.ref gq)) → atp f_61 qa_13 (fd 3 (.ref g61_qa_13_3)) → GJ τfa_54 f_61 gq rq mq → atp f_61 qa_15 (fd 3 (.ref g61_qa_15_3)) → W p l e rm_s_X10_convolved s m args below meth c H locs 2 610 Q (F0 m 61 ls []) := by
                intro n61
                induction n61 with
                | zero => intro ls f_61 H locs v61_8 v61_10 g61_qa_13_3 g61_qa_15_3 hm61 hl h t_61 o_61 jv61_2 jv61_4 jv61_5 iv61_10 tg61_qa_13_3 tg61_qa_15_3 k61_u0_2 k61_qa_13_3 k61_gq_GJ k61_qa_15_3; exact absurd hm61 (by omega)
                | succ n61 ih61 =>
                  intro ls f_61 H locs v61_8 v61_10 g61_qa_13_3 g61_qa_15_3 hm61 hl h t_61 o_61 jv61_2 jv61_4 jv61_5 iv61_10 tg61_qa_13_3 tg61_qa_15_3 k61_u0_2 k61_qa_13_3 k61_gq_GJ k61_qa_15_3
                  refine lv_iload hx hb dX10_convolved_61 (lv_at hl 7 rfl) ?_
                  refine lv_iload hx hb dX10_convolved_63 (lv_at hl 3 rfl) ?_
                  refine lv_icmp_gt (tgt := 107) hx hb dX10_convolved_65 (by decide) (fun cab61_1 => ?_) (fun cab61_1 => ?_)
                  · have cab61_2 : u5.toInt < v61_10.toInt := Int32.lt_iff_toInt_lt.mp cab61_1
                    refine lv_lload hx hb dX10_convolved_107 (lv_at hl 6 rfl) ?_
                    refine k_i (r_S C h hl (As := [.long v61_8]) (rest := []) (s_X10_residue l D G b0 τfa_54 f_61 t_61 v61_8) mk_X10_residue w_781 w_741 w_742 ⟨Nat.le_of_ble_eq_true rfl, Nat.le_of_ble_eq_true rfl⟩ rfl (Nat.le_of_ble_eq_true rfl) ⟨Nat.le_of_ble_eq_true rfl, Nat.le_of_ble_eq_true rfl⟩ rfl dX10_convolved_109) h (fun rab61_3 fab61_4 H locs pab61_5 h => ?_)
                    obtain ⟨irab61_3, tfab61_4, ogfab61_4⟩ := pab61_5
                    have egfab61_4 := Fr.nil2 ogfab61_4
                    subst egfab61_4
                    exact u_iret C h hr hQ (⟨τfa_54, xfa_54, irab61_3, t_61, (Fr.tr Ofa_54 (Fr.cv xfa_54 o_61 (by decide) (fun _ h_ => h_)) (fun _ h_ => h_) (fun _ h_ => h_)), k61_gq_GJ⟩) (Nat.le_of_ble_eq_true rfl) (Nat.le_of_ble_eq_true rfl) dX10_convolved_112
                  · have cab61_2 : v61_10.toInt ≤ u5.toInt := Int32.le_iff_toInt_le.mp (iv_nlt cab61_1)
                    have iab61_3 : iv v61_10 1 60 := iv_El cab61_2 iv61_10 jv61_5 (by decide)
                    have iab61_4 : iv u5 1 60 := iv_Er cab61_2 iv61_10 jv61_5 (by decide)
                    refine lv_lload hx hb dX10_convolved_68 (lv_at hl 6 rfl) ?_
                    refine lv_aload_n hx hb dX10_convolved_70 rfl (lv_at hl 0 rfl) ?_
                    refine lv_aload hx hb dX10_convolved_71 (lv_at hl 4 rfl) ?_
                    refine lv_iload_n hx hb dX10_convolved_73 rfl (lv_at hl 1 rfl) ?_
                    refine lv_iload hx hb dX10_convolved_74 (lv_at hl 7 rfl) ?_
                    obtain ⟨_, rab61_5⟩ := t_rec t_61 ha_58 (by decide) wf_10
                    refine k_i (r_V C h hl (As := [.ref qa_13, .int u2, .int v61_10]) (rest := [.long v61_8]) (s_X10_termB l D G b0 τfa_54 f_61 t_61 u0 ha_58 qa_13 ha_59 u2 jv61_2 v61_10 (iv_w iab61_3 (by decide)) g61_qa_13_3 tg61_qa_13_3 k61_qa_13_3) rab61_5 (Cn := RX10) (T := TX10) (N := 10) rfl rfl mk_X10_term w_724 w_726 w_17 w_727 ⟨Nat.le_of_ble_eq_true rfl, Nat.le_of_ble_eq_true rfl⟩ rfl (Nat.le_of_ble_eq_true rfl) ⟨Nat.le_of_ble_eq_true rfl, Nat.le_of_ble_eq_true rfl⟩ rfl dX10_convolved_76) h (fun rab61_6 fab61_7 H locs pab61_8 h => ?_)
                    obtain ⟨irab61_6, tfab61_7, ogfab61_7, ⟨ztfab61_7, ttfab61_7, ktfab61_7⟩⟩ := pab61_8
                    have egfab61_7 := Fr.nil2 ogfab61_7
                    subst egfab61_7
                    refine lv_i2l hx hb dX10_convolved_79 rfl (i_topL irab61_6 (fun wab61_9 ewab61_9 mwab61_9 iwab61_9 => ?_))
                    refine lv_aload_n hx hb dX10_convolved_80 rfl (lv_at hl 0 rfl) ?_
                    refine lv_aload hx hb dX10_convolved_81 (lv_at hl 5 rfl) ?_
                    refine lv_iload hx hb dX10_convolved_83 (lv_at hl 2 rfl) ?_
                    refine lv_iload hx hb dX10_convolved_85 (lv_at hl 3 rfl) ?_
                    refine lv_iload hx hb dX10_convolved_87 (lv_at hl 7 rfl) ?_
                    refine i_sub hx hb dX10_convolved_89 iab61_4 iab61_3 (lo := (-59)) (hi := 59) (by decide) (fun zab61_10 ezab61_10 mzab61_10 izab61_10 => ?_)
                    obtain ⟨_, rab61_11⟩ := t_rec t_61 ha_58 (by decide) wf_10
                    refine k_i (r_V C h hl (As := [.ref qa_15, .int u4, .int zab61_10]) (rest := [.long wab61_9, .long v61_8]) (s_X10_termB l D G b0 τfa_54 f_61 t_61 u0 ha_58 qa_15 ha_60 u4 jv61_4 zab61_10 (show iv zab61_10 0 60 from by omega) g61_qa_15_3 tg61_qa_15_3 k61_qa_15_3) rab61_11 (Cn := RX10) (T := TX10) (N := 10) rfl rfl mk_X10_term w_724 w_726 w_17 w_727 ⟨Nat.le_of_ble_eq_true rfl, Nat.le_of_ble_eq_true rfl⟩ rfl (Nat.le_of_ble_eq_true rfl) ⟨Nat.le_of_ble_eq_true rfl, Nat.le_of_ble_eq_true rfl⟩ rfl dX10_convolved_90) h (fun rab61_12 fab61_13 H locs pab61_14 h => ?_)
                    obtain ⟨irab61_12, tfab61_13, ogfab61_13, ⟨ztfab61_13, ttfab61_13, ktfab61_13⟩⟩ := pab61_14
                    have egfab61_13 := Fr.nil2 ogfab61_13
                    subst egfab61_13
                    refine lv_i2l hx hb dX10_convolved_93 rfl (i_topL irab61_12 (fun wab61_15 ewab61_15 mwab61_15 iwab61_15 => ?_))
                    refine k_i (r_S C h hl (As := [.long wab61_9, .long wab61_15]) (rest := [.long v61_8]) (s_X10_times l D G b0 τfa_54 f_61 t_61 wab61_9 wab61_15) mk_X10_times w_822 w_807 w_808 ⟨Nat.le_of_ble_eq_true rfl, Nat.le_of_ble_eq_true rfl⟩ rfl (Nat.le_of_ble_eq_true rfl) ⟨Nat.le_of_ble_eq_true rfl, Nat.le_of_ble_eq_true rfl⟩ rfl dX10_convolved_94) h (fun rab61_16 fab61_17 H locs pab61_18 h => ?_)
                    obtain ⟨irab61_16, tfab61_17, ogfab61_17⟩ := pab61_18
                    have egfab61_17 := Fr.nil2 ogfab61_17
                    subst egfab61_17
                    refine lv_i2l hx hb dX10_convolved_97 rfl (i_topL irab61_16 (fun wab61_19 ewab61_19 mwab61_19 iwab61_19 => ?_))
                    refine lv_ladd hx hb dX10_convolved_98 (lv_topl (fun wab61_20 ewab61_20 => ?_))
                    refine lv_lstore (lv' := [(8, .long wab61_20), (0, .ref u0), (2, .int u2), (4, .int u4), (5, .int u5), (6, .ref qa_13), (7, .ref qa_15), (10, .int v61_10)]) hx hb dX10_convolved_99 hl (by decide) rfl (fun ls hl => ?_)
                    refine i_inc hx hb dX10_convolved_101 hl (k := 7) rfl iab61_3 rfl (lo := 2) (hi := 61) (by decide) (by decide) (lv' := fun v => [(10, .int v), (8, .long wab61_20), (0, .ref u0), (2, .int u2), (4, .int u4), (5, .int u5), (6, .ref qa_13), (7, .ref qa_15)]) (fun _ => rfl) (fun zab61_21 ls ezab61_21 mzab61_21 izab61_21 hl => ?_)
                    refine lv_goto (tgt := 61) hx hb dX10_convolved_104 (by decide) ?_
                    exact ih61 ls f_61 H locs wab61_20 zab61_21 ztfab61_7 ztfab61_13 (show 61 - zab61_21.toInt < _ by omega) (lv_cons hl 2 rfl (lv_cons hl 3 rfl (lv_cons hl 4 rfl (lv_cons hl 5 rfl (lv_cons hl 6 rfl (lv_cons hl 7 rfl (lv_cons hl 1 rfl (lv_cons hl 0 rfl (lv_nil hl))))))))) h t_61 o_61 jv61_2 jv61_4 (iv_w iab61_4 (by decide)) (iv_w izab61_21 (by decide)) ttfab61_7 ttfab61_13 k61_u0_2 ktfab61_7 k61_gq_GJ ktfab61_13
              exact L61 61 ls fa_54 H locs wa_68 1 ztfa_42 ztfa_54 (by decide) (lv_cons hl 4 rfl (lv_cons hl 6 rfl (lv_cons hl 8 rfl (lv_cons hl 9 rfl (lv_cons hl 3 rfl (lv_cons hl 2 rfl (lv_cons hl 1 rfl (lv_cons hl 0 rfl (lv_nil hl))))))))) h tfa_54 ofa_54z ia_23 ia_30 ia_37 ⟨by decide, by decide⟩ ha_62 ttfa_54 ka_56 ka_57 gjfa_54 ktfa_54
          · have ca_35 : ra_31.toInt = 0 := congrArg Int32.toInt ca_34
            have ia_36 : iv ra_31 0 0 := iv_Q ca_35 ira_31 (iv_k (x := 0) (k := 0) rfl) (by decide)
            refine lv_iconst (v := -1) hx hb dX10_convolved_53 (by decide) ?_
            exact u_iret C h hr hQ (⟨τ, (Ex.rf τ), ⟨by decide, by decide⟩, t, o, hGJ⟩) (Nat.le_of_ble_eq_true rfl) (Nat.le_of_ble_eq_true rfl) dX10_convolved_54
abbrev rm_s_X10_leasta : Room := { frames := 6, cells := 1, slots := 305, locals := 132 }
set_option maxRecDepth 100000 in
set_option maxHeartbeats 4000000 in
theorem s_X10_leasta (l : Launch) (D : va_G) (G : Nat → Nat) (b0 : Nat) (τ : Nat → Nat) (f : hM) (t : TI G 9 τ f) (u0 : Nat) (hu0 : τ u0 = 10) (u1 : Int32) (hu1 : iv u1 (-2147483648) 2147483647) (u2 : Int32) (hu2 : iv u2 (-2147483648) 2147483647) (u3 : Int32) (hu3 : iv u3 0 0) (gq rq mq : Nat) (hgq : τ gq = 20) (kq2 : atp f u0 (fd 2 (.ref gq))) (hGJ : GJ τ f gq rq mq) : mI l yX10_least cX10_least 5 (.int) rm_s_X10_leasta D G b0 f [.ref u0, .int u1, .int u2, .int u3] (fun r f1 => (∃ τ1, Ex τ τ1 ∧ iv r (-2147483648) 2147483647 ∧ TI G 9 τ1 f1 ∧ Fr [0, 1, 3, 20, 21, 22, 23, 24, 25, 40, 41, 42, 45, 47, 48, 1004, 20001, 20002, 20007, 20008, 20009, 20010, 20011, 22001, 22002, 22003, 22004, 23001, 23002, 23003, 23004, 40002, 40003, 40004, 45004] τ f f1 ∧ GJ τ1 f1 gq rq mq)) := by
  refine met2 (own := RX10) (by decide) rfl (Nat.le_of_ble_eq_true rfl) ?_
  intro p e s m args below meth c ls Q hQ C hr hini hl h
  have hl : lv_has ls 5 [(0, .ref u0), (1, .int u1), (2, .int u2), (3, .int u3)] := hl
  obtain ⟨hx, hb, hml, hown, hts, hE0, hlk⟩ := id C
  have o := Fr.rf [0, 1, 3, 20, 21, 22, 23, 24, 25, 40, 41, 42, 45, 47, 48, 1004, 20001, 20002, 20007, 20008, 20009, 20010, 20011, 22001, 22002, 22003, 22004, 23001, 23002, 23003, 23004, 40002, 40003, 40004, 45004] τ f
  obtain ⟨gu, hgu, kgu⟩ := t_fref (tq := 45) (k := 6) t hu0 (by decide) wf_10 rfl
  refine lv_aload_n hx hb dX10_least_0 rfl (lv_at hl 0 rfl) ?_
  refine t_getr (tq := 12) C h t hu0 (by decide) wf_10 rfl fl_X10_19 dX10_least_1 (fun qa_1 tqa_1 => ?_)
  refine lv_iload_n hx hb dX10_least_4 rfl (lv_at hl 1 rfl) ?_
  obtain ⟨_, ra_2⟩ := t_rec t tqa_1 (by decide) wf_12
  refine k_q (r_V C h hl (As := [.int u1]) (rest := []) (s_X0_findN l D G b0 τ f t qa_1 tqa_1 u1 hu1) ra_2 (Cn := RX0) (T := TX0) (N := 6) rfl rfl mk_X0_find w_594 w_595 w_596 w_597 ⟨Nat.le_of_ble_eq_true rfl, Nat.le_of_ble_eq_true rfl⟩ rfl (Nat.le_of_ble_eq_true rfl) ⟨Nat.le_of_ble_eq_true rfl, Nat.le_of_ble_eq_true rfl⟩ rfl dX10_least_5) h (fun ra_3 fa_4 H locs pa_5 h => ?_)
  obtain ⟨qra_3, tfa_4, ogfa_4, ocra_3⟩ := pa_5
  have egfa_4 := Fr.nil2 ogfa_4
  subst egfa_4
  have tra_3 := qra_3
  refine lv_astoreO (lv' := [(4, va_rf ra_3), (0, .ref u0), (1, .int u1), (2, .int u2), (3, .int u3)]) hx hb dX10_least_8 hl (by decide) rfl (fun ls hl => ?_)
  refine lv_aloadO hx hb dX10_least_10 (lv_at hl 0 rfl) ?_
  rcases va_rfc ra_3 with eqa_7 | ⟨qa_7, eqa_7⟩
  · subst eqa_7
    have hl : lv_has ls 5 [(4, .null), (0, .ref u0), (1, .int u1), (2, .int u2), (3, .int u3)] := hl
    show W _ _ _ _ _ _ _ _ _ _ _ _ _ _ _ (F0 m 12 ls [.null])
    refine lv_ifnullN (tgt := 31) hx hb dX10_least_12 (by decide) ?_
    refine lv_ldc (v := -1000000) hx hb hown (hts _ w_772) dX10_least_31 ?_
    exact u_iret C h hr hQ (⟨τ, (Ex.rf τ), ⟨by decide, by decide⟩, t, o, hGJ⟩) (Nat.le_of_ble_eq_true rfl) (Nat.le_of_ble_eq_true rfl) dX10_least_33
  · subst eqa_7
    have tqa_7 : τ qa_7 = 1 := tra_3 _ rfl
    have ia_8 : iv u1 0 7 := ocra_3 _ rfl
    have hl : lv_has ls 5 [(4, .ref qa_7), (0, .ref u0), (1, .int u1), (2, .int u2), (3, .int u3)] := hl
    show W _ _ _ _ _ _ _ _ _ _ _ _ _ _ _ (F0 m 12 ls [.ref qa_7])
    refine lv_ifnull hx hb dX10_least_12 ?_
    refine lv_iload_n hx hb dX10_least_15 rfl (lv_at hl 3 rfl) ?_
    refine k_i (r_S C h hl (As := [.int u2]) (rest := []) (s_X10_isKind l D G b0 τ f t u2 hu2) mk_X10_isKind w_721 w_722 w_723 ⟨Nat.le_of_ble_eq_true rfl, Nat.le_of_ble_eq_true rfl⟩ rfl (Nat.le_of_ble_eq_true rfl) ⟨Nat.le_of_ble_eq_true rfl, Nat.le_of_ble_eq_true rfl⟩ rfl dX10_least_16) h (fun ra_9 fa_10 H locs pa_11 h => ?_)
    obtain ⟨ira_9, tfa_10, ogfa_10, cnra_9⟩ := pa_11
    have egfa_10 := Fr.nil2 ogfa_10
    subst egfa_10
    refine lv_if_eq (tgt := 31) hx hb dX10_least_19 (by decide) (fun ca_12 => ?_) (fun ca_12 => ?_)
    · have ca_13 : ra_9.toInt = 0 := congrArg Int32.toInt ca_12
      have ia_14 : iv ra_9 0 0 := iv_Q ca_13 ira_9 (iv_k (x := 0) (k := 0) rfl) (by decide)
      refine lv_ldc (v := -1000000) hx hb hown (hts _ w_772) dX10_least_31 ?_
      exact u_iret C h hr hQ (⟨τ, (Ex.rf τ), ⟨by decide, by decide⟩, t, o, hGJ⟩) (Nat.le_of_ble_eq_true rfl) (Nat.le_of_ble_eq_true rfl) dX10_least_33
    · have ca_13 : ra_9.toInt ≠ 0 := fun z_ => ca_12 (Int32.toInt_inj.mp z_)
      have ia_14 : iv ra_9 1 1 := iv_Nl ca_13 ira_9 (by decide)
      have ia_15 := cnra_9 ca_13
      refine lv_iload_n hx hb dX10_least_22 rfl (lv_at hl 4 rfl) ?_
      refine lv_iconst (v := 0) hx hb dX10_least_23 (by decide) ?_
      refine lv_iconst (v := 1) hx hb dX10_least_24 (by decide) ?_
      refine k_i (r_S C h hl (As := [.int u3, .int 0, .int 1]) (rest := []) (s_X10_within l D G b0 τ f t u3 (iv_w hu3 (by decide)) 0 (iv_w (iv_k (x := 0) (k := 0) rfl) (by decide)) 1 (iv_w (iv_k (x := 1) (k := 1) rfl) (by decide))) mk_X10_within w_425 w_426 w_427 ⟨Nat.le_of_ble_eq_true rfl, Nat.le_of_ble_eq_true rfl⟩ rfl (Nat.le_of_ble_eq_true rfl) ⟨Nat.le_of_ble_eq_true rfl, Nat.le_of_ble_eq_true rfl⟩ rfl dX10_least_25) h (fun ra_16 fa_17 H locs pa_18 h => ?_)
      have na_19 : (0 : Int32).toInt = 0 := rfl
      have na_20 : (1 : Int32).toInt = 1 := rfl
      obtain ⟨ira_16, tfa_17, ogfa_17, cnra_16, czra_16⟩ := pa_18
      have egfa_17 := Fr.nil2 ogfa_17
      subst egfa_17
      refine lv_if_ne (tgt := 34) hx hb dX10_least_28 (by decide) (fun ca_21 => ?_) (fun ca_21 => ?_)
      · have ca_22 : ra_16.toInt ≠ 0 := fun z_ => ca_21 (Int32.toInt_inj.mp z_)
        have ia_23 : iv ra_16 1 1 := iv_Nl ca_22 ira_16 (by decide)
        obtain ⟨ia_24, ia_25⟩ := cnra_16 ca_22
        refine lv_aload_n hx hb dX10_least_34 rfl (lv_at hl 1 rfl) ?_
        refine t_getfd C h t hu0 (by decide) wf_10 (v := .ref gu) kgu fl_X10_56 dX10_least_35 ?_
        refine lv_aload_n hx hb dX10_least_38 rfl (lv_at hl 1 rfl) ?_
        refine lv_aload hx hb dX10_least_39 (lv_at hl 0 rfl) ?_
        obtain ⟨_, ra_26⟩ := t_rec t hu0 (by decide) wf_10
        refine k_q (r_V C h hl (As := [.ref qa_7]) (rest := [.ref gu]) (s_X10_terms l D G b0 τ f t u0 hu0 qa_7 tqa_7 gq rq mq hgq kq2 hGJ) ra_26 (Cn := RX10) (T := TX10) (N := 10) rfl rfl mk_X10_terms w_728 w_730 w_18 w_731 ⟨Nat.le_of_ble_eq_true rfl, Nat.le_of_ble_eq_true rfl⟩ rfl (Nat.le_of_ble_eq_true rfl) ⟨Nat.le_of_ble_eq_true rfl, Nat.le_of_ble_eq_true rfl⟩ rfl dX10_least_41) h (fun ra_27 fa_28 H locs pa_29 h => ?_)
        obtain ⟨τfa_28, exfa_28, qra_27, tfa_28, ogfa_28, x0ra_27, gjfa_28⟩ := pa_29
        have ofa_28 : Fr [0, 1, 3, 20, 21, 22, 23, 24, 25, 40, 41, 42, 45, 47, 48, 1004, 20001, 20002, 20007, 20008, 20009, 20010, 20011, 22001, 22002, 22003, 22004, 23001, 23002, 23003, 23004, 40002, 40003, 40004, 45004] τ f fa_28 := Fr.tr o ogfa_28 (by decide) (by decide)
        have ka_30 := atp.fr kq2 ogfa_28 hu0 (by decide)
        have ka_31 := atp.fr kgu ogfa_28 hu0 (by decide)
        have Ofa_28 : Fr [0, 1, 3, 20, 21, 22, 23, 24, 25, 40, 41, 42, 45, 47, 48, 1004, 20001, 20002, 20007, 20008, 20009, 20010, 20011, 22001, 22002, 22003, 22004, 23001, 23002, 23003, 23004, 40002, 40003, 40004, 45004] τ f fa_28 := ofa_28
        have xfa_28 : Ex τ τfa_28 := exfa_28
        have ha_32 : τfa_28 gu = 45 := Ex.at exfa_28 hgu (by decide)
        have ha_33 : τfa_28 u0 = 10 := Ex.at exfa_28 hu0 (by decide)
        have ha_34 : τfa_28 qa_7 = 1 := Ex.at exfa_28 tqa_7 (by decide)
        have ha_35 : τfa_28 gq = 20 := Ex.at exfa_28 hgq (by decide)
        have ofa_28z := Fr.rf [0, 1, 3, 20, 21, 22, 23, 24, 25, 40, 41, 42, 45, 47, 48, 1004, 20001, 20002, 20007, 20008, 20009, 20010, 20011, 22001, 22002, 22003, 22004, 23001, 23002, 23003, 23004, 40002, 40003, 40004, 45004] τfa_28 fa_28
        obtain ⟨qa_36, rfl, tqa_36, ktqa_36⟩ := qra_27
        refine lv_iload_n hx hb dX10_least_44 rfl (lv_at hl 3 rfl) ?_
        refine lv_iload_n hx hb dX10_least_45 rfl (lv_at hl 4 rfl) ?_
        obtain ⟨_, ra_37⟩ := t_rec tfa_28 ha_32 (by decide) wf_45
        refine k_v (r_V C h hl (As := [.ref qa_36, .int u2, .int u3]) (rest := []) (s_X3_loada l D G b0 τfa_28 fa_28 tfa_28 gu ha_32 qa_36 tqa_36 u2 ia_15 u3 hu3) ra_37 (Cn := RX3) (T := TX3) (N := 4) rfl rfl mk_X3_load w_1034 w_1035 w_1036 w_1037 ⟨Nat.le_of_ble_eq_true rfl, Nat.le_of_ble_eq_true rfl⟩ rfl (Nat.le_of_ble_eq_true rfl) ⟨Nat.le_of_ble_eq_true rfl, Nat.le_of_ble_eq_true rfl⟩ rfl dX10_least_46) h (fun fa_39 H locs pa_40 h => ?_)
        obtain ⟨tfa_39, ogfa_39, ⟨wz_fa_39, kpu0_3fa_39, ipu0_3fa_39, rpu0_3fa_39⟩⟩ := pa_40
        have ofa_39 : Fr [0, 1, 3, 20, 21, 22, 23, 24, 25, 40, 41, 42, 45, 47, 48, 1004, 20001, 20002, 20007, 20008, 20009, 20010, 20011, 22001, 22002, 22003, 22004, 23001, 23002, 23003, 23004, 40002, 40003, 40004, 45004] τfa_28 fa_28 fa_39 := Fr.tr ofa_28z ogfa_39 (by decide) (by decide)
        have ka_41 := atp.fr ka_30 ogfa_39 ha_33 (by decide)
        have ka_42 := atp.fr ka_31 ogfa_39 ha_33 (by decide)
        have ka_43 := GJ.fr gjfa_28 ogfa_39 ha_35 (by decide)
        have ka_44 := atp.fr ktqa_36 ogfa_39 ha_34 (by decide)
        refine lv_aload_n hx hb dX10_least_49 rfl (lv_at hl 1 rfl) ?_
        refine t_getfd C h tfa_39 ha_33 (by decide) wf_10 (v := .ref gu) ka_42 fl_X10_56 dX10_least_50 ?_
        obtain ⟨_, ra_45⟩ := t_rec tfa_39 ha_32 (by decide) wf_45
        refine k_i (r_V C h hl (As := []) (rest := []) (s_X3_smallesta l D G b0 τfa_28 fa_39 tfa_39 gu ha_32 wz_fa_39 ipu0_3fa_39 kpu0_3fa_39) ra_45 (Cn := RX3) (T := TX3) (N := 4) rfl rfl mk_X3_smallest w_1091 w_1092 w_1093 w_1094 ⟨Nat.le_of_ble_eq_true rfl, Nat.le_of_ble_eq_true rfl⟩ rfl (Nat.le_of_ble_eq_true rfl) ⟨Nat.le_of_ble_eq_true rfl, Nat.le_of_ble_eq_true rfl⟩ rfl dX10_least_53) h (fun ra_46 fa_47 H locs pa_48 h => ?_)
        obtain ⟨ira_46, tfa_47, ogfa_47⟩ := pa_48
        have ofa_47 : Fr [0, 1, 3, 20, 21, 22, 23, 24, 25, 40, 41, 42, 45, 47, 48, 1004, 20001, 20002, 20007, 20008, 20009, 20010, 20011, 22001, 22002, 22003, 22004, 23001, 23002, 23003, 23004, 40002, 40003, 40004, 45004] τfa_28 fa_28 fa_47 := Fr.tr ofa_39 ogfa_47 (by decide) (by decide)
        have ka_49 := atp.fr ka_41 ogfa_47 ha_33 (by decide)
        have ka_50 := atp.fr ka_42 ogfa_47 ha_33 (by decide)
        have ka_51 := GJ.fr ka_43 ogfa_47 ha_35 (by decide)
        have ka_52 := atp.fr ka_44 ogfa_47 ha_34 (by decide)
        have ka_53 := atp.fr kpu0_3fa_39 ogfa_47 ha_32 (by decide)
        exact u_iret C h hr hQ (⟨τfa_28, xfa_28, (iv_w ira_46 (by decide)), tfa_47, (Fr.tr Ofa_28 (Fr.cv xfa_28 ofa_47 (by decide) (fun _ h_ => h_)) (fun _ h_ => h_) (fun _ h_ => h_)), ka_51⟩) (Nat.le_of_ble_eq_true rfl) (Nat.le_of_ble_eq_true rfl) dX10_least_56
      · have ca_22 : ra_16.toInt = 0 := congrArg Int32.toInt ca_21
        have ia_23 : iv ra_16 0 0 := iv_Q ca_22 ira_16 (iv_k (x := 0) (k := 0) rfl) (by decide)
        have ia_24 := czra_16 ca_22
        refine lv_ldc (v := -1000000) hx hb hown (hts _ w_772) dX10_least_31 ?_
        exact u_iret C h hr hQ (⟨τ, (Ex.rf τ), ⟨by decide, by decide⟩, t, o, hGJ⟩) (Nat.le_of_ble_eq_true rfl) (Nat.le_of_ble_eq_true rfl) dX10_least_33
abbrev rm_s_X10_leastb : Room := { frames := 6, cells := 1, slots := 305, locals := 132 }
set_option maxRecDepth 100000 in
set_option maxHeartbeats 4000000 in
theorem s_X10_leastb (l : Launch) (D : va_G) (G : Nat → Nat) (b0 : Nat) (τ : Nat → Nat) (f : hM) (t : TI G 9 τ f) (u0 : Nat) (hu0 : τ u0 = 10) (u1 : Int32) (hu1 : iv u1 (-2147483648) 2147483647) (u2 : Int32) (hu2 : iv u2 (-2147483648) 2147483647) (u3 : Int32) (hu3 : iv u3 1 1) (gq rq mq : Nat) (hgq : τ gq = 20) (kq2 : atp f u0 (fd 2 (.ref gq))) (hGJ : GJ τ f gq rq mq) : mI l yX10_least cX10_least 5 (.int) rm_s_X10_leastb D G b0 f [.ref u0, .int u1, .int u2, .int u3] (fun r f1 => (∃ τ1, Ex τ τ1 ∧ iv r (-2147483648) 2147483647 ∧ TI G 9 τ1 f1 ∧ Fr [0, 1, 3, 20, 21, 22, 23, 24, 25, 40, 41, 42, 45, 47, 48, 1004, 20001, 20002, 20007, 20008, 20009, 20010, 20011, 22001, 22002, 22003, 22004, 23001, 23002, 23003, 23004, 40002, 40003, 40004, 45004] τ f f1 ∧ GJ τ1 f1 gq rq mq)) := by
  refine met2 (own := RX10) (by decide) rfl (Nat.le_of_ble_eq_true rfl) ?_
  intro p e s m args below meth c ls Q hQ C hr hini hl h
  have hl : lv_has ls 5 [(0, .ref u0), (1, .int u1), (2, .int u2), (3, .int u3)] := hl
  obtain ⟨hx, hb, hml, hown, hts, hE0, hlk⟩ := id C
  have o := Fr.rf [0, 1, 3, 20, 21, 22, 23, 24, 25, 40, 41, 42, 45, 47, 48, 1004, 20001, 20002, 20007, 20008, 20009, 20010, 20011, 22001, 22002, 22003, 22004, 23001, 23002, 23003, 23004, 40002, 40003, 40004, 45004] τ f
  obtain ⟨gu, hgu, kgu⟩ := t_fref (tq := 45) (k := 6) t hu0 (by decide) wf_10 rfl
  refine lv_aload_n hx hb dX10_least_0 rfl (lv_at hl 0 rfl) ?_
  refine t_getr (tq := 12) C h t hu0 (by decide) wf_10 rfl fl_X10_19 dX10_least_1 (fun qa_1 tqa_1 => ?_)
  refine lv_iload_n hx hb dX10_least_4 rfl (lv_at hl 1 rfl) ?_
  obtain ⟨_, ra_2⟩ := t_rec t tqa_1 (by decide) wf_12
  refine k_q (r_V C h hl (As := [.int u1]) (rest := []) (s_X0_findN l D G b0 τ f t qa_1 tqa_1 u1 hu1) ra_2 (Cn := RX0) (T := TX0) (N := 6) rfl rfl mk_X0_find w_594 w_595 w_596 w_597 ⟨Nat.le_of_ble_eq_true rfl, Nat.le_of_ble_eq_true rfl⟩ rfl (Nat.le_of_ble_eq_true rfl) ⟨Nat.le_of_ble_eq_true rfl, Nat.le_of_ble_eq_true rfl⟩ rfl dX10_least_5) h (fun ra_3 fa_4 H locs pa_5 h => ?_)
  obtain ⟨qra_3, tfa_4, ogfa_4, ocra_3⟩ := pa_5
  have egfa_4 := Fr.nil2 ogfa_4
  subst egfa_4
  have tra_3 := qra_3
  refine lv_astoreO (lv' := [(4, va_rf ra_3), (0, .ref u0), (1, .int u1), (2, .int u2), (3, .int u3)]) hx hb dX10_least_8 hl (by decide) rfl (fun ls hl => ?_)
  refine lv_aloadO hx hb dX10_least_10 (lv_at hl 0 rfl) ?_
  rcases va_rfc ra_3 with eqa_7 | ⟨qa_7, eqa_7⟩
  · subst eqa_7
    have hl : lv_has ls 5 [(4, .null), (0, .ref u0), (1, .int u1), (2, .int u2), (3, .int u3)] := hl
    show W _ _ _ _ _ _ _ _ _ _ _ _ _ _ _ (F0 m 12 ls [.null])
    refine lv_ifnullN (tgt := 31) hx hb dX10_least_12 (by decide) ?_
    refine lv_ldc (v := -1000000) hx hb hown (hts _ w_772) dX10_least_31 ?_
    exact u_iret C h hr hQ (⟨τ, (Ex.rf τ), ⟨by decide, by decide⟩, t, o, hGJ⟩) (Nat.le_of_ble_eq_true rfl) (Nat.le_of_ble_eq_true rfl) dX10_least_33
  · subst eqa_7
    have tqa_7 : τ qa_7 = 1 := tra_3 _ rfl
    have ia_8 : iv u1 0 7 := ocra_3 _ rfl
    have hl : lv_has ls 5 [(4, .ref qa_7), (0, .ref u0), (1, .int u1), (2, .int u2), (3, .int u3)] := hl
    show W _ _ _ _ _ _ _ _ _ _ _ _ _ _ _ (F0 m 12 ls [.ref qa_7])
    refine lv_ifnull hx hb dX10_least_12 ?_
    refine lv_iload_n hx hb dX10_least_15 rfl (lv_at hl 3 rfl) ?_
    refine k_i (r_S C h hl (As := [.int u2]) (rest := []) (s_X10_isKind l D G b0 τ f t u2 hu2) mk_X10_isKind w_721 w_722 w_723 ⟨Nat.le_of_ble_eq_true rfl, Nat.le_of_ble_eq_true rfl⟩ rfl (Nat.le_of_ble_eq_true rfl) ⟨Nat.le_of_ble_eq_true rfl, Nat.le_of_ble_eq_true rfl⟩ rfl dX10_least_16) h (fun ra_9 fa_10 H locs pa_11 h => ?_)
    obtain ⟨ira_9, tfa_10, ogfa_10, cnra_9⟩ := pa_11
    have egfa_10 := Fr.nil2 ogfa_10
    subst egfa_10
    refine lv_if_eq (tgt := 31) hx hb dX10_least_19 (by decide) (fun ca_12 => ?_) (fun ca_12 => ?_)
    · have ca_13 : ra_9.toInt = 0 := congrArg Int32.toInt ca_12
      have ia_14 : iv ra_9 0 0 := iv_Q ca_13 ira_9 (iv_k (x := 0) (k := 0) rfl) (by decide)
      refine lv_ldc (v := -1000000) hx hb hown (hts _ w_772) dX10_least_31 ?_
      exact u_iret C h hr hQ (⟨τ, (Ex.rf τ), ⟨by decide, by decide⟩, t, o, hGJ⟩) (Nat.le_of_ble_eq_true rfl) (Nat.le_of_ble_eq_true rfl) dX10_least_33
    · have ca_13 : ra_9.toInt ≠ 0 := fun z_ => ca_12 (Int32.toInt_inj.mp z_)
      have ia_14 : iv ra_9 1 1 := iv_Nl ca_13 ira_9 (by decide)
      have ia_15 := cnra_9 ca_13
      refine lv_iload_n hx hb dX10_least_22 rfl (lv_at hl 4 rfl) ?_
      refine lv_iconst (v := 0) hx hb dX10_least_23 (by decide) ?_
      refine lv_iconst (v := 1) hx hb dX10_least_24 (by decide) ?_
      refine k_i (r_S C h hl (As := [.int u3, .int 0, .int 1]) (rest := []) (s_X10_within l D G b0 τ f t u3 (iv_w hu3 (by decide)) 0 (iv_w (iv_k (x := 0) (k := 0) rfl) (by decide)) 1 (iv_w (iv_k (x := 1) (k := 1) rfl) (by decide))) mk_X10_within w_425 w_426 w_427 ⟨Nat.le_of_ble_eq_true rfl, Nat.le_of_ble_eq_true rfl⟩ rfl (Nat.le_of_ble_eq_true rfl) ⟨Nat.le_of_ble_eq_true rfl, Nat.le_of_ble_eq_true rfl⟩ rfl dX10_least_25) h (fun ra_16 fa_17 H locs pa_18 h => ?_)
      have na_19 : (0 : Int32).toInt = 0 := rfl
      have na_20 : (1 : Int32).toInt = 1 := rfl
      obtain ⟨ira_16, tfa_17, ogfa_17, cnra_16, czra_16⟩ := pa_18
      have egfa_17 := Fr.nil2 ogfa_17
      subst egfa_17
      refine lv_if_ne (tgt := 34) hx hb dX10_least_28 (by decide) (fun ca_21 => ?_) (fun ca_21 => ?_)
      · have ca_22 : ra_16.toInt ≠ 0 := fun z_ => ca_21 (Int32.toInt_inj.mp z_)
        have ia_23 : iv ra_16 1 1 := iv_Nl ca_22 ira_16 (by decide)
        obtain ⟨ia_24, ia_25⟩ := cnra_16 ca_22
        refine lv_aload_n hx hb dX10_least_34 rfl (lv_at hl 1 rfl) ?_
        refine t_getfd C h t hu0 (by decide) wf_10 (v := .ref gu) kgu fl_X10_56 dX10_least_35 ?_
        refine lv_aload_n hx hb dX10_least_38 rfl (lv_at hl 1 rfl) ?_
        refine lv_aload hx hb dX10_least_39 (lv_at hl 0 rfl) ?_
        obtain ⟨_, ra_26⟩ := t_rec t hu0 (by decide) wf_10
        refine k_q (r_V C h hl (As := [.ref qa_7]) (rest := [.ref gu]) (s_X10_terms l D G b0 τ f t u0 hu0 qa_7 tqa_7 gq rq mq hgq kq2 hGJ) ra_26 (Cn := RX10) (T := TX10) (N := 10) rfl rfl mk_X10_terms w_728 w_730 w_18 w_731 ⟨Nat.le_of_ble_eq_true rfl, Nat.le_of_ble_eq_true rfl⟩ rfl (Nat.le_of_ble_eq_true rfl) ⟨Nat.le_of_ble_eq_true rfl, Nat.le_of_ble_eq_true rfl⟩ rfl dX10_least_41) h (fun ra_27 fa_28 H locs pa_29 h => ?_)
        obtain ⟨τfa_28, exfa_28, qra_27, tfa_28, ogfa_28, x0ra_27, gjfa_28⟩ := pa_29
        have ofa_28 : Fr [0, 1, 3, 20, 21, 22, 23, 24, 25, 40, 41, 42, 45, 47, 48, 1004, 20001, 20002, 20007, 20008, 20009, 20010, 20011, 22001, 22002, 22003, 22004, 23001, 23002, 23003, 23004, 40002, 40003, 40004, 45004] τ f fa_28 := Fr.tr o ogfa_28 (by decide) (by decide)
        have ka_30 := atp.fr kq2 ogfa_28 hu0 (by decide)
        have ka_31 := atp.fr kgu ogfa_28 hu0 (by decide)
        have Ofa_28 : Fr [0, 1, 3, 20, 21, 22, 23, 24, 25, 40, 41, 42, 45, 47, 48, 1004, 20001, 20002, 20007, 20008, 20009, 20010, 20011, 22001, 22002, 22003, 22004, 23001, 23002, 23003, 23004, 40002, 40003, 40004, 45004] τ f fa_28 := ofa_28
        have xfa_28 : Ex τ τfa_28 := exfa_28
        have ha_32 : τfa_28 gu = 45 := Ex.at exfa_28 hgu (by decide)
        have ha_33 : τfa_28 u0 = 10 := Ex.at exfa_28 hu0 (by decide)
        have ha_34 : τfa_28 qa_7 = 1 := Ex.at exfa_28 tqa_7 (by decide)
        have ha_35 : τfa_28 gq = 20 := Ex.at exfa_28 hgq (by decide)
        have ofa_28z := Fr.rf [0, 1, 3, 20, 21, 22, 23, 24, 25, 40, 41, 42, 45, 47, 48, 1004, 20001, 20002, 20007, 20008, 20009, 20010, 20011, 22001, 22002, 22003, 22004, 23001, 23002, 23003, 23004, 40002, 40003, 40004, 45004] τfa_28 fa_28
        obtain ⟨qa_36, rfl, tqa_36, ktqa_36⟩ := qra_27
        refine lv_iload_n hx hb dX10_least_44 rfl (lv_at hl 3 rfl) ?_
        refine lv_iload_n hx hb dX10_least_45 rfl (lv_at hl 4 rfl) ?_
        obtain ⟨_, ra_37⟩ := t_rec tfa_28 ha_32 (by decide) wf_45
        refine k_v (r_V C h hl (As := [.ref qa_36, .int u2, .int u3]) (rest := []) (s_X3_loadb l D G b0 τfa_28 fa_28 tfa_28 gu ha_32 qa_36 tqa_36 u2 ia_15 u3 hu3) ra_37 (Cn := RX3) (T := TX3) (N := 4) rfl rfl mk_X3_load w_1034 w_1035 w_1036 w_1037 ⟨Nat.le_of_ble_eq_true rfl, Nat.le_of_ble_eq_true rfl⟩ rfl (Nat.le_of_ble_eq_true rfl) ⟨Nat.le_of_ble_eq_true rfl, Nat.le_of_ble_eq_true rfl⟩ rfl dX10_least_46) h (fun fa_39 H locs pa_40 h => ?_)
        obtain ⟨tfa_39, ogfa_39, ⟨wz_fa_39, kpu0_3fa_39, ipu0_3fa_39, rpu0_3fa_39⟩⟩ := pa_40
        have ofa_39 : Fr [0, 1, 3, 20, 21, 22, 23, 24, 25, 40, 41, 42, 45, 47, 48, 1004, 20001, 20002, 20007, 20008, 20009, 20010, 20011, 22001, 22002, 22003, 22004, 23001, 23002, 23003, 23004, 40002, 40003, 40004, 45004] τfa_28 fa_28 fa_39 := Fr.tr ofa_28z ogfa_39 (by decide) (by decide)
        have ka_41 := atp.fr ka_30 ogfa_39 ha_33 (by decide)
        have ka_42 := atp.fr ka_31 ogfa_39 ha_33 (by decide)
        have ka_43 := GJ.fr gjfa_28 ogfa_39 ha_35 (by decide)
        have ka_44 := atp.fr ktqa_36 ogfa_39 ha_34 (by decide)
        refine lv_aload_n hx hb dX10_least_49 rfl (lv_at hl 1 rfl) ?_
        refine t_getfd C h tfa_39 ha_33 (by decide) wf_10 (v := .ref gu) ka_42 fl_X10_56 dX10_least_50 ?_
        obtain ⟨_, ra_45⟩ := t_rec tfa_39 ha_32 (by decide) wf_45
        refine k_i (r_V C h hl (As := []) (rest := []) (s_X3_smallestb l D G b0 τfa_28 fa_39 tfa_39 gu ha_32 wz_fa_39 ipu0_3fa_39 kpu0_3fa_39) ra_45 (Cn := RX3) (T := TX3) (N := 4) rfl rfl mk_X3_smallest w_1091 w_1092 w_1093 w_1094 ⟨Nat.le_of_ble_eq_true rfl, Nat.le_of_ble_eq_true rfl⟩ rfl (Nat.le_of_ble_eq_true rfl) ⟨Nat.le_of_ble_eq_true rfl, Nat.le_of_ble_eq_true rfl⟩ rfl dX10_least_53) h (fun ra_46 fa_47 H locs pa_48 h => ?_)
        obtain ⟨ira_46, tfa_47, ogfa_47⟩ := pa_48
        have ofa_47 : Fr [0, 1, 3, 20, 21, 22, 23, 24, 25, 40, 41, 42, 45, 47, 48, 1004, 20001, 20002, 20007, 20008, 20009, 20010, 20011, 22001, 22002, 22003, 22004, 23001, 23002, 23003, 23004, 40002, 40003, 40004, 45004] τfa_28 fa_28 fa_47 := Fr.tr ofa_39 ogfa_47 (by decide) (by decide)
        have ka_49 := atp.fr ka_41 ogfa_47 ha_33 (by decide)
        have ka_50 := atp.fr ka_42 ogfa_47 ha_33 (by decide)
        have ka_51 := GJ.fr ka_43 ogfa_47 ha_35 (by decide)
        have ka_52 := atp.fr ka_44 ogfa_47 ha_34 (by decide)
        have ka_53 := atp.fr kpu0_3fa_39 ogfa_47 ha_32 (by decide)
        exact u_iret C h hr hQ (⟨τfa_28, xfa_28, (iv_w ira_46 (by decide)), tfa_47, (Fr.tr Ofa_28 (Fr.cv xfa_28 ofa_47 (by decide) (fun _ h_ => h_)) (fun _ h_ => h_) (fun _ h_ => h_)), ka_51⟩) (Nat.le_of_ble_eq_true rfl) (Nat.le_of_ble_eq_true rfl) dX10_least_56
      · have ca_22 : ra_16.toInt = 0 := congrArg Int32.toInt ca_21
        have ia_23 : iv ra_16 0 0 := iv_Q ca_22 ira_16 (iv_k (x := 0) (k := 0) rfl) (by decide)
        have ia_24 := czra_16 ca_22
        refine lv_ldc (v := -1000000) hx hb hown (hts _ w_772) dX10_least_31 ?_
        exact u_iret C h hr hQ (⟨τ, (Ex.rf τ), ⟨by decide, by decide⟩, t, o, hGJ⟩) (Nat.le_of_ble_eq_true rfl) (Nat.le_of_ble_eq_true rfl) dX10_least_33
abbrev rm_s_X10_leastc : Room := { frames := 6, cells := 1, slots := 305, locals := 132 }
set_option maxRecDepth 100000 in
set_option maxHeartbeats 4000000 in
theorem s_X10_leastc (l : Launch) (D : va_G) (G : Nat → Nat) (b0 : Nat) (τ : Nat → Nat) (f : hM) (t : TI G 9 τ f) (u0 : Nat) (hu0 : τ u0 = 10) (u1 : Int32) (hu1 : iv u1 (-2147483648) 2147483647) (u2 : Int32) (hu2 : iv u2 (-2147483648) 2147483647) (u3 : Int32) (hu3 : iv u3 2 2147483647) (gq rq mq : Nat) (hgq : τ gq = 20) (kq2 : atp f u0 (fd 2 (.ref gq))) (hGJ : GJ τ f gq rq mq) : mI l yX10_least cX10_least 5 (.int) rm_s_X10_leastc D G b0 f [.ref u0, .int u1, .int u2, .int u3] (fun r f1 => (∃ τ1, Ex τ τ1 ∧ iv r (-2147483648) 2147483647 ∧ TI G 9 τ1 f1 ∧ Fr [0, 1, 3, 20, 21, 22, 23, 24, 25, 40, 41, 42, 45, 47, 48, 1004, 20001, 20002, 20007, 20008, 20009, 20010, 20011, 22001, 22002, 22003, 22004, 23001, 23002, 23003, 23004, 40002, 40003, 40004, 45004] τ f f1 ∧ GJ τ1 f1 gq rq mq)) := by
  refine met2 (own := RX10) (by decide) rfl (Nat.le_of_ble_eq_true rfl) ?_
  intro p e s m args below meth c ls Q hQ C hr hini hl h
  have hl : lv_has ls 5 [(0, .ref u0), (1, .int u1), (2, .int u2), (3, .int u3)] := hl
  obtain ⟨hx, hb, hml, hown, hts, hE0, hlk⟩ := id C
  have o := Fr.rf [0, 1, 3, 20, 21, 22, 23, 24, 25, 40, 41, 42, 45, 47, 48, 1004, 20001, 20002, 20007, 20008, 20009, 20010, 20011, 22001, 22002, 22003, 22004, 23001, 23002, 23003, 23004, 40002, 40003, 40004, 45004] τ f
  obtain ⟨gu, hgu, kgu⟩ := t_fref (tq := 45) (k := 6) t hu0 (by decide) wf_10 rfl
  refine lv_aload_n hx hb dX10_least_0 rfl (lv_at hl 0 rfl) ?_
  refine t_getr (tq := 12) C h t hu0 (by decide) wf_10 rfl fl_X10_19 dX10_least_1 (fun qa_1 tqa_1 => ?_)
  refine lv_iload_n hx hb dX10_least_4 rfl (lv_at hl 1 rfl) ?_
  obtain ⟨_, ra_2⟩ := t_rec t tqa_1 (by decide) wf_12
  refine k_q (r_V C h hl (As := [.int u1]) (rest := []) (s_X0_findN l D G b0 τ f t qa_1 tqa_1 u1 hu1) ra_2 (Cn := RX0) (T := TX0) (N := 6) rfl rfl mk_X0_find w_594 w_595 w_596 w_597 ⟨Nat.le_of_ble_eq_true rfl, Nat.le_of_ble_eq_true rfl⟩ rfl (Nat.le_of_ble_eq_true rfl) ⟨Nat.le_of_ble_eq_true rfl, Nat.le_of_ble_eq_true rfl⟩ rfl dX10_least_5) h (fun ra_3 fa_4 H locs pa_5 h => ?_)
  obtain ⟨qra_3, tfa_4, ogfa_4, ocra_3⟩ := pa_5
  have egfa_4 := Fr.nil2 ogfa_4
  subst egfa_4
  have tra_3 := qra_3
  refine lv_astoreO (lv' := [(4, va_rf ra_3), (0, .ref u0), (1, .int u1), (2, .int u2), (3, .int u3)]) hx hb dX10_least_8 hl (by decide) rfl (fun ls hl => ?_)
  refine lv_aloadO hx hb dX10_least_10 (lv_at hl 0 rfl) ?_
  rcases va_rfc ra_3 with eqa_7 | ⟨qa_7, eqa_7⟩
  · subst eqa_7
    have hl : lv_has ls 5 [(4, .null), (0, .ref u0), (1, .int u1), (2, .int u2), (3, .int u3)] := hl
    show W _ _ _ _ _ _ _ _ _ _ _ _ _ _ _ (F0 m 12 ls [.null])
    refine lv_ifnullN (tgt := 31) hx hb dX10_least_12 (by decide) ?_
    refine lv_ldc (v := -1000000) hx hb hown (hts _ w_772) dX10_least_31 ?_
    exact u_iret C h hr hQ (⟨τ, (Ex.rf τ), ⟨by decide, by decide⟩, t, o, hGJ⟩) (Nat.le_of_ble_eq_true rfl) (Nat.le_of_ble_eq_true rfl) dX10_least_33
  · subst eqa_7
    have tqa_7 : τ qa_7 = 1 := tra_3 _ rfl
    have ia_8 : iv u1 0 7 := ocra_3 _ rfl
    have hl : lv_has ls 5 [(4, .ref qa_7), (0, .ref u0), (1, .int u1), (2, .int u2), (3, .int u3)] := hl
    show W _ _ _ _ _ _ _ _ _ _ _ _ _ _ _ (F0 m 12 ls [.ref qa_7])
    refine lv_ifnull hx hb dX10_least_12 ?_
    refine lv_iload_n hx hb dX10_least_15 rfl (lv_at hl 3 rfl) ?_
    refine k_i (r_S C h hl (As := [.int u2]) (rest := []) (s_X10_isKind l D G b0 τ f t u2 hu2) mk_X10_isKind w_721 w_722 w_723 ⟨Nat.le_of_ble_eq_true rfl, Nat.le_of_ble_eq_true rfl⟩ rfl (Nat.le_of_ble_eq_true rfl) ⟨Nat.le_of_ble_eq_true rfl, Nat.le_of_ble_eq_true rfl⟩ rfl dX10_least_16) h (fun ra_9 fa_10 H locs pa_11 h => ?_)
    obtain ⟨ira_9, tfa_10, ogfa_10, cnra_9⟩ := pa_11
    have egfa_10 := Fr.nil2 ogfa_10
    subst egfa_10
    refine lv_if_eq (tgt := 31) hx hb dX10_least_19 (by decide) (fun ca_12 => ?_) (fun ca_12 => ?_)
    · have ca_13 : ra_9.toInt = 0 := congrArg Int32.toInt ca_12
      have ia_14 : iv ra_9 0 0 := iv_Q ca_13 ira_9 (iv_k (x := 0) (k := 0) rfl) (by decide)
      refine lv_ldc (v := -1000000) hx hb hown (hts _ w_772) dX10_least_31 ?_
      exact u_iret C h hr hQ (⟨τ, (Ex.rf τ), ⟨by decide, by decide⟩, t, o, hGJ⟩) (Nat.le_of_ble_eq_true rfl) (Nat.le_of_ble_eq_true rfl) dX10_least_33
    · have ca_13 : ra_9.toInt ≠ 0 := fun z_ => ca_12 (Int32.toInt_inj.mp z_)
      have ia_14 : iv ra_9 1 1 := iv_Nl ca_13 ira_9 (by decide)
      have ia_15 := cnra_9 ca_13
      refine lv_iload_n hx hb dX10_least_22 rfl (lv_at hl 4 rfl) ?_
      refine lv_iconst (v := 0) hx hb dX10_least_23 (by decide) ?_
      refine lv_iconst (v := 1) hx hb dX10_least_24 (by decide) ?_
      refine k_i (r_S C h hl (As := [.int u3, .int 0, .int 1]) (rest := []) (s_X10_within l D G b0 τ f t u3 (iv_w hu3 (by decide)) 0 (iv_w (iv_k (x := 0) (k := 0) rfl) (by decide)) 1 (iv_w (iv_k (x := 1) (k := 1) rfl) (by decide))) mk_X10_within w_425 w_426 w_427 ⟨Nat.le_of_ble_eq_true rfl, Nat.le_of_ble_eq_true rfl⟩ rfl (Nat.le_of_ble_eq_true rfl) ⟨Nat.le_of_ble_eq_true rfl, Nat.le_of_ble_eq_true rfl⟩ rfl dX10_least_25) h (fun ra_16 fa_17 H locs pa_18 h => ?_)
      have na_19 : (0 : Int32).toInt = 0 := rfl
      have na_20 : (1 : Int32).toInt = 1 := rfl
      obtain ⟨ira_16, tfa_17, ogfa_17, cnra_16, czra_16⟩ := pa_18
      have egfa_17 := Fr.nil2 ogfa_17
      subst egfa_17
      refine lv_if_ne (tgt := 34) hx hb dX10_least_28 (by decide) (fun ca_21 => ?_) (fun ca_21 => ?_)
      · have ca_22 : ra_16.toInt ≠ 0 := fun z_ => ca_21 (Int32.toInt_inj.mp z_)
        have ia_23 : iv ra_16 1 1 := iv_Nl ca_22 ira_16 (by decide)
        obtain ⟨ia_24, ia_25⟩ := cnra_16 ca_22
        exfalso; omega
      · have ca_22 : ra_16.toInt = 0 := congrArg Int32.toInt ca_21
        have ia_23 : iv ra_16 0 0 := iv_Q ca_22 ira_16 (iv_k (x := 0) (k := 0) rfl) (by decide)
        have ia_24 := czra_16 ca_22
        refine lv_ldc (v := -1000000) hx hb hown (hts _ w_772) dX10_least_31 ?_
        exact u_iret C h hr hQ (⟨τ, (Ex.rf τ), ⟨by decide, by decide⟩, t, o, hGJ⟩) (Nat.le_of_ble_eq_true rfl) (Nat.le_of_ble_eq_true rfl) dX10_least_33
abbrev rm_s_X10_leastd : Room := { frames := 6, cells := 1, slots := 305, locals := 132 }
set_option maxRecDepth 100000 in
set_option maxHeartbeats 4000000 in
theorem s_X10_leastd (l : Launch) (D : va_G) (G : Nat → Nat) (b0 : Nat) (τ : Nat → Nat) (f : hM) (t : TI G 9 τ f) (u0 : Nat) (hu0 : τ u0 = 10) (u1 : Int32) (hu1 : iv u1 (-2147483648) 2147483647) (u2 : Int32) (hu2 : iv u2 (-2147483648) 2147483647) (u3 : Int32) (hu3 : iv u3 (-2147483648) (-1)) (gq rq mq : Nat) (hgq : τ gq = 20) (kq2 : atp f u0 (fd 2 (.ref gq))) (hGJ : GJ τ f gq rq mq) : mI l yX10_least cX10_least 5 (.int) rm_s_X10_leastd D G b0 f [.ref u0, .int u1, .int u2, .int u3] (fun r f1 => (∃ τ1, Ex τ τ1 ∧ iv r (-2147483648) 2147483647 ∧ TI G 9 τ1 f1 ∧ Fr [0, 1, 3, 20, 21, 22, 23, 24, 25, 40, 41, 42, 45, 47, 48, 1004, 20001, 20002, 20007, 20008, 20009, 20010, 20011, 22001, 22002, 22003, 22004, 23001, 23002, 23003, 23004, 40002, 40003, 40004, 45004] τ f f1 ∧ GJ τ1 f1 gq rq mq)) := by
  refine met2 (own := RX10) (by decide) rfl (Nat.le_of_ble_eq_true rfl) ?_
  intro p e s m args below meth c ls Q hQ C hr hini hl h
  have hl : lv_has ls 5 [(0, .ref u0), (1, .int u1), (2, .int u2), (3, .int u3)] := hl
  obtain ⟨hx, hb, hml, hown, hts, hE0, hlk⟩ := id C
  have o := Fr.rf [0, 1, 3, 20, 21, 22, 23, 24, 25, 40, 41, 42, 45, 47, 48, 1004, 20001, 20002, 20007, 20008, 20009, 20010, 20011, 22001, 22002, 22003, 22004, 23001, 23002, 23003, 23004, 40002, 40003, 40004, 45004] τ f
  obtain ⟨gu, hgu, kgu⟩ := t_fref (tq := 45) (k := 6) t hu0 (by decide) wf_10 rfl
  refine lv_aload_n hx hb dX10_least_0 rfl (lv_at hl 0 rfl) ?_
  refine t_getr (tq := 12) C h t hu0 (by decide) wf_10 rfl fl_X10_19 dX10_least_1 (fun qa_1 tqa_1 => ?_)
  refine lv_iload_n hx hb dX10_least_4 rfl (lv_at hl 1 rfl) ?_
  obtain ⟨_, ra_2⟩ := t_rec t tqa_1 (by decide) wf_12
  refine k_q (r_V C h hl (As := [.int u1]) (rest := []) (s_X0_findN l D G b0 τ f t qa_1 tqa_1 u1 hu1) ra_2 (Cn := RX0) (T := TX0) (N := 6) rfl rfl mk_X0_find w_594 w_595 w_596 w_597 ⟨Nat.le_of_ble_eq_true rfl, Nat.le_of_ble_eq_true rfl⟩ rfl (Nat.le_of_ble_eq_true rfl) ⟨Nat.le_of_ble_eq_true rfl, Nat.le_of_ble_eq_true rfl⟩ rfl dX10_least_5) h (fun ra_3 fa_4 H locs pa_5 h => ?_)
  obtain ⟨qra_3, tfa_4, ogfa_4, ocra_3⟩ := pa_5
  have egfa_4 := Fr.nil2 ogfa_4
  subst egfa_4
  have tra_3 := qra_3
  refine lv_astoreO (lv' := [(4, va_rf ra_3), (0, .ref u0), (1, .int u1), (2, .int u2), (3, .int u3)]) hx hb dX10_least_8 hl (by decide) rfl (fun ls hl => ?_)
  refine lv_aloadO hx hb dX10_least_10 (lv_at hl 0 rfl) ?_
  rcases va_rfc ra_3 with eqa_7 | ⟨qa_7, eqa_7⟩
  · subst eqa_7
    have hl : lv_has ls 5 [(4, .null), (0, .ref u0), (1, .int u1), (2, .int u2), (3, .int u3)] := hl
    show W _ _ _ _ _ _ _ _ _ _ _ _ _ _ _ (F0 m 12 ls [.null])
    refine lv_ifnullN (tgt := 31) hx hb dX10_least_12 (by decide) ?_
    refine lv_ldc (v := -1000000) hx hb hown (hts _ w_772) dX10_least_31 ?_
    exact u_iret C h hr hQ (⟨τ, (Ex.rf τ), ⟨by decide, by decide⟩, t, o, hGJ⟩) (Nat.le_of_ble_eq_true rfl) (Nat.le_of_ble_eq_true rfl) dX10_least_33
  · subst eqa_7
    have tqa_7 : τ qa_7 = 1 := tra_3 _ rfl
    have ia_8 : iv u1 0 7 := ocra_3 _ rfl
    have hl : lv_has ls 5 [(4, .ref qa_7), (0, .ref u0), (1, .int u1), (2, .int u2), (3, .int u3)] := hl
    show W _ _ _ _ _ _ _ _ _ _ _ _ _ _ _ (F0 m 12 ls [.ref qa_7])
    refine lv_ifnull hx hb dX10_least_12 ?_
    refine lv_iload_n hx hb dX10_least_15 rfl (lv_at hl 3 rfl) ?_
    refine k_i (r_S C h hl (As := [.int u2]) (rest := []) (s_X10_isKind l D G b0 τ f t u2 hu2) mk_X10_isKind w_721 w_722 w_723 ⟨Nat.le_of_ble_eq_true rfl, Nat.le_of_ble_eq_true rfl⟩ rfl (Nat.le_of_ble_eq_true rfl) ⟨Nat.le_of_ble_eq_true rfl, Nat.le_of_ble_eq_true rfl⟩ rfl dX10_least_16) h (fun ra_9 fa_10 H locs pa_11 h => ?_)
    obtain ⟨ira_9, tfa_10, ogfa_10, cnra_9⟩ := pa_11
    have egfa_10 := Fr.nil2 ogfa_10
    subst egfa_10
    refine lv_if_eq (tgt := 31) hx hb dX10_least_19 (by decide) (fun ca_12 => ?_) (fun ca_12 => ?_)
    · have ca_13 : ra_9.toInt = 0 := congrArg Int32.toInt ca_12
      have ia_14 : iv ra_9 0 0 := iv_Q ca_13 ira_9 (iv_k (x := 0) (k := 0) rfl) (by decide)
      refine lv_ldc (v := -1000000) hx hb hown (hts _ w_772) dX10_least_31 ?_
      exact u_iret C h hr hQ (⟨τ, (Ex.rf τ), ⟨by decide, by decide⟩, t, o, hGJ⟩) (Nat.le_of_ble_eq_true rfl) (Nat.le_of_ble_eq_true rfl) dX10_least_33
    · have ca_13 : ra_9.toInt ≠ 0 := fun z_ => ca_12 (Int32.toInt_inj.mp z_)
      have ia_14 : iv ra_9 1 1 := iv_Nl ca_13 ira_9 (by decide)
      have ia_15 := cnra_9 ca_13
      refine lv_iload_n hx hb dX10_least_22 rfl (lv_at hl 4 rfl) ?_
      refine lv_iconst (v := 0) hx hb dX10_least_23 (by decide) ?_
      refine lv_iconst (v := 1) hx hb dX10_least_24 (by decide) ?_
      refine k_i (r_S C h hl (As := [.int u3, .int 0, .int 1]) (rest := []) (s_X10_within l D G b0 τ f t u3 (iv_w hu3 (by decide)) 0 (iv_w (iv_k (x := 0) (k := 0) rfl) (by decide)) 1 (iv_w (iv_k (x := 1) (k := 1) rfl) (by decide))) mk_X10_within w_425 w_426 w_427 ⟨Nat.le_of_ble_eq_true rfl, Nat.le_of_ble_eq_true rfl⟩ rfl (Nat.le_of_ble_eq_true rfl) ⟨Nat.le_of_ble_eq_true rfl, Nat.le_of_ble_eq_true rfl⟩ rfl dX10_least_25) h (fun ra_16 fa_17 H locs pa_18 h => ?_)
      have na_19 : (0 : Int32).toInt = 0 := rfl
      have na_20 : (1 : Int32).toInt = 1 := rfl
      obtain ⟨ira_16, tfa_17, ogfa_17, cnra_16, czra_16⟩ := pa_18
      have egfa_17 := Fr.nil2 ogfa_17
      subst egfa_17
      refine lv_if_ne (tgt := 34) hx hb dX10_least_28 (by decide) (fun ca_21 => ?_) (fun ca_21 => ?_)
      · have ca_22 : ra_16.toInt ≠ 0 := fun z_ => ca_21 (Int32.toInt_inj.mp z_)
        have ia_23 : iv ra_16 1 1 := iv_Nl ca_22 ira_16 (by decide)
        obtain ⟨ia_24, ia_25⟩ := cnra_16 ca_22
        exfalso; omega
      · have ca_22 : ra_16.toInt = 0 := congrArg Int32.toInt ca_21
        have ia_23 : iv ra_16 0 0 := iv_Q ca_22 ira_16 (iv_k (x := 0) (k := 0) rfl) (by decide)
        have ia_24 := czra_16 ca_22
        refine lv_ldc (v := -1000000) hx hb hown (hts _ w_772) dX10_least_31 ?_
        exact u_iret C h hr hQ (⟨τ, (Ex.rf τ), ⟨by decide, by decide⟩, t, o, hGJ⟩) (Nat.le_of_ble_eq_true rfl) (Nat.le_of_ble_eq_true rfl) dX10_least_33
abbrev rm_s_X10_least : Room := { frames := 6, cells := 1, slots := 305, locals := 132 }
set_option maxRecDepth 100000 in
set_option maxHeartbeats 4000000 in
theorem s_X10_least (l : Launch) (D : va_G) (G : Nat → Nat) (b0 : Nat) (τ : Nat → Nat) (f : hM) (t : TI G 9 τ f) (u0 : Nat) (hu0 : τ u0 = 10) (u1 : Int32) (hu1 : iv u1 (-2147483648) 2147483647) (u2 : Int32) (hu2 : iv u2 (-2147483648) 2147483647) (u3 : Int32) (hu3 : iv u3 (-2147483648) 2147483647) (gq rq mq : Nat) (hgq : τ gq = 20) (kq2 : atp f u0 (fd 2 (.ref gq))) (hGJ : GJ τ f gq rq mq) : mI l yX10_least cX10_least 5 (.int) rm_s_X10_least D G b0 f [.ref u0, .int u1, .int u2, .int u3] (fun r f1 => (∃ τ1, Ex τ τ1 ∧ iv r (-2147483648) 2147483647 ∧ TI G 9 τ1 f1 ∧ Fr [0, 1, 3, 20, 21, 22, 23, 24, 25, 40, 41, 42, 45, 47, 48, 1004, 20001, 20002, 20007, 20008, 20009, 20010, 20011, 22001, 22002, 22003, 22004, 23001, 23002, 23003, 23004, 40002, 40003, 40004, 45004] τ f f1 ∧ GJ τ1 f1 gq rq mq)) := by
  rcases (by omega : u3.toInt = 0 ∨ u3.toInt = 1 ∨ 2 ≤ u3.toInt ∨ u3.toInt < 0) with q_ | q_ | q_ | q_
  · exact s_X10_leasta l D G b0 τ f t u0 hu0 u1 hu1 u2 hu2 u3 (by omega) gq rq mq hgq kq2 hGJ
  · exact s_X10_leastb l D G b0 τ f t u0 hu0 u1 hu1 u2 hu2 u3 (by omega) gq rq mq hgq kq2 hGJ
  · exact s_X10_leastc l D G b0 τ f t u0 hu0 u1 hu1 u2 hu2 u3 (by omega) gq rq mq hgq kq2 hGJ
  · exact s_X10_leastd l D G b0 τ f t u0 hu0 u1 hu1 u2 hu2 u3 (by omega) gq rq mq hgq kq2 hGJ
