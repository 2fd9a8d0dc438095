theorem dX10_rule_0 : decode cX10_rule 0 = .ok (.aload_n 0, 1) := by decide +kernel
theorem dX10_rule_1 : decode cX10_rule 1 = .ok (.getfield 19, 3) := by decide +kernel
theorem dX10_rule_4 : decode cX10_rule 4 = .ok (.iload_n 1, 1) := by decide +kernel
theorem dX10_rule_5 : decode cX10_rule 5 = .ok (.invokevirtual 110, 3) := by decide +kernel
theorem dX10_rule_8 : decode cX10_rule 8 = .ok (.astore_n 3, 1) := by decide +kernel
theorem dX10_rule_9 : decode cX10_rule 9 = .ok (.aload_n 3, 1) := by decide +kernel
theorem dX10_rule_10 : decode cX10_rule 10 = .ok (.ifnull 13, 3) := by decide +kernel
theorem dX10_rule_23 : decode cX10_rule 23 = .ok (.new 158, 3) := by decide +kernel
theorem dX10_rule_26 : decode cX10_rule 26 = .ok (.dup, 1) := by decide +kernel
theorem dX10_rule_27 : decode cX10_rule 27 = .ok (.invokespecial 160, 3) := by decide +kernel
theorem dX10_rule_30 : decode cX10_rule 30 = .ok (.athrow, 1) := by decide +kernel
theorem w_1360 : Cond.classLink "QuarterWalks" 158 "java/util/NoSuchElementException" ∈ wAll := wI6 65 (by decide +kernel) (by decide +kernel)
theorem w_120 : Cond.initialized "java/util/NoSuchElementException" ∈ wAll := wI1 25 (by decide +kernel) (by decide +kernel)
theorem dX10_rule_13 : decode cX10_rule 13 = .ok (.iload_n 2, 1) := by decide +kernel
theorem dX10_rule_14 : decode cX10_rule 14 = .ok (.iconst 0, 1) := by decide +kernel
theorem dX10_rule_15 : decode cX10_rule 15 = .ok (.bipush 14, 2) := by decide +kernel
theorem dX10_rule_17 : decode cX10_rule 17 = .ok (.invokestatic 87, 3) := by decide +kernel
theorem dX10_rule_20 : decode cX10_rule 20 = .ok (.ifCond .ne 11, 3) := by decide +kernel
theorem dX10_rule_31 : decode cX10_rule 31 = .ok (.iload_n 2, 1) := by decide +kernel
theorem dX10_rule_32 : decode cX10_rule 32 = .ok (.bipush 8, 2) := by decide +kernel
theorem dX10_rule_34 : decode cX10_rule 34 = .ok (.if_icmp .ge 10, 3) := by decide +kernel
theorem dX10_rule_44 : decode cX10_rule 44 = .ok (.iload_n 2, 1) := by decide +kernel
theorem dX10_rule_45 : decode cX10_rule 45 = .ok (.tableswitch 78 8 13 #[39, 47, 52, 57, 62, 70], 39) := by decide +kernel
theorem sw_8_13 (p : Int32) : p = 8 ∨ p = 9 ∨ p = 10 ∨ p = 11 ∨ p = 12 ∨ p = 13 ∨ (p.toInt < 8 ∨ 13 < p.toInt) := by
  have h : p.toInt = 8 ∨ p.toInt = 9 ∨ p.toInt = 10 ∨ p.toInt = 11 ∨ p.toInt = 12 ∨ p.toInt = 13 ∨ (p.toInt < 8 ∨ 13 < p.toInt) := by omega
  rcases h with h | h | h | h | h | h | h
  · exact Or.inl (Int32.toInt_inj.mp (h.trans rfl))
  · exact Or.inr (Or.inl (Int32.toInt_inj.mp (h.trans rfl)))
  · exact Or.inr (Or.inr (Or.inl (Int32.toInt_inj.mp (h.trans rfl))))
  · exact Or.inr (Or.inr (Or.inr (Or.inl (Int32.toInt_inj.mp (h.trans rfl)))))
  · exact Or.inr (Or.inr (Or.inr (Or.inr (Or.inl (Int32.toInt_inj.mp (h.trans rfl))))))
  · exact Or.inr (Or.inr (Or.inr (Or.inr (Or.inr (Or.inl (Int32.toInt_inj.mp (h.trans rfl)))))))
  · exact Or.inr (Or.inr (Or.inr (Or.inr (Or.inr (Or.inr (h))))))
theorem dX10_rule_84 : decode cX10_rule 84 = .ok (.aload_n 3, 1) := by decide +kernel
theorem dX10_rule_85 : decode cX10_rule 85 = .ok (.invokevirtual 161, 3) := by decide +kernel
theorem dX10_rule_88 : decode cX10_rule 88 = .ok (.invokestatic 164, 3) := by decide +kernel
theorem dX10_rule_92 : decode cX10_rule 92 = .ok (.aload_n 3, 1) := by decide +kernel
theorem dX10_rule_93 : decode cX10_rule 93 = .ok (.invokevirtual 149, 3) := by decide +kernel
theorem dX10_rule_97 : decode cX10_rule 97 = .ok (.aload_n 3, 1) := by decide +kernel
theorem dX10_rule_98 : decode cX10_rule 98 = .ok (.getfield 125, 3) := by decide +kernel
theorem dX10_rule_102 : decode cX10_rule 102 = .ok (.aload_n 3, 1) := by decide +kernel
theorem dX10_rule_103 : decode cX10_rule 103 = .ok (.getfield 120, 3) := by decide +kernel
theorem dX10_rule_107 : decode cX10_rule 107 = .ok (.aload_n 3, 1) := by decide +kernel
theorem dX10_rule_108 : decode cX10_rule 108 = .ok (.getstatic 169, 3) := by decide +kernel
theorem w_1421 : Cond.fieldLink "QuarterWalks" 169 "QuarterWalks" "DX" "[I" ∈ wAll := wI6 126 (by decide +kernel) (by decide +kernel)
theorem dX10_rule_111 : decode cX10_rule 111 = .ok (.invokevirtual 172, 3) := by decide +kernel
theorem w_1422 : Cond.methodLink "QuarterWalks" 172 yX6_drift ∈ wAll := wI6 127 (by decide +kernel) (by decide +kernel)
theorem w_1424 : Cond.selects yX6_drift.cls yX6_drift yX6_drift ∈ wAll := wI6 129 (by decide +kernel) (by decide +kernel)
theorem mk_X6_drift : mk yX6_drift 1 := ⟨by decide +kernel, w_115⟩
theorem w_1423 : Cond.instanceMethod yX6_drift ∈ wAll := wI6 128 (by decide +kernel) (by decide +kernel)
theorem w_1425 : Cond.code yX6_drift cX6_drift 4 (some .int) ∈ wAll := wI6 130 (by decide +kernel) (by decide +kernel)
theorem dX10_rule_115 : decode cX10_rule 115 = .ok (.aload_n 3, 1) := by decide +kernel
theorem dX10_rule_116 : decode cX10_rule 116 = .ok (.getstatic 176, 3) := by decide +kernel
theorem w_1426 : Cond.fieldLink "QuarterWalks" 176 "QuarterWalks" "DY" "[I" ∈ wAll := wI6 131 (by decide +kernel) (by decide +kernel)
theorem dX10_rule_119 : decode cX10_rule 119 = .ok (.invokevirtual 172, 3) := by decide +kernel
theorem dX10_rule_123 : decode cX10_rule 123 = .ok (.aload_n 3, 1) := by decide +kernel
theorem dX10_rule_124 : decode cX10_rule 124 = .ok (.invokevirtual 161, 3) := by decide +kernel
theorem dX10_rule_37 : decode cX10_rule 37 = .ok (.aload_n 3, 1) := by decide +kernel
theorem dX10_rule_38 : decode cX10_rule 38 = .ok (.getfield 135, 3) := by decide +kernel
theorem dX10_rule_41 : decode cX10_rule 41 = .ok (.iload_n 2, 1) := by decide +kernel
theorem dX10_rule_42 : decode cX10_rule 42 = .ok (.iaload, 1) := by decide +kernel
theorem dX10_rule_91 : decode cX10_rule 91 = .ok (.ireturn, 1) := by decide +kernel
theorem dX10_rule_96 : decode cX10_rule 96 = .ok (.ireturn, 1) := by decide +kernel
theorem dX10_rule_101 : decode cX10_rule 101 = .ok (.ireturn, 1) := by decide +kernel
theorem dX10_rule_106 : decode cX10_rule 106 = .ok (.ireturn, 1) := by decide +kernel
theorem dX10_rule_114 : decode cX10_rule 114 = .ok (.ireturn, 1) := by decide +kernel
theorem dX10_rule_122 : decode cX10_rule 122 = .ok (.ireturn, 1) := by decide +kernel
theorem dX10_rule_127 : decode cX10_rule 127 = .ok (.ireturn, 1) := by decide +kernel
theorem dX10_rule_43 : decode cX10_rule 43 = .ok (.ireturn, 1) := by decide +kernel
def at0 : List Cond := vx_at0 RX10 160 "java/util/NoSuchElementException" ["java/lang/RuntimeException", "java/lang/Exception"]
theorem at0_tbl : ∀ w ∈ at0.filter goodWord, w ∈ lw_tbl := by decide +kernel
def at0_B : List Cond := [.castable "java/util/NoSuchElementException" "java/util/NoSuchElementException", .declares ⟨"java/lang/RuntimeException", "<init>", "()V"⟩, .declares ⟨"java/lang/Exception", "<init>", "()V"⟩, .declares ⟨"java/lang/Throwable", "<init>", "()V"⟩]
theorem at0_bad : ∀ w ∈ at0.filter (fun w => !goodWord w), w ∈ at0_B := by decide +kernel
theorem at0_ot : ∀ w ∈ Cond.classLink RX10 158 "java/util/NoSuchElementException" :: Cond.initialized "java/util/NoSuchElementException" :: at0, vx_ot w = true := by decide +kernel
theorem at0_all : ∀ w ∈ at0.filter goodWord, w ∈ wAll := fun w h => List.mem_filter.mpr ⟨at0_tbl w h, (List.mem_filter.mp h).2⟩
theorem at0_hold {D : va_G} {G : Nat → Nat} {b0 : Nat} {s : State} {args : Array Value} (hts : ∀ w ∈ wAll, w.before args s = true) (hE0 : hE D G b0 s s.heap) : ∀ w ∈ at0, w.before args s = true :=
  vx_hat (fun w h => hts w (at0_all w h)) at0_bad (vx_c ((hE0.2.2.2.2.2.2.2.2.2.2.2.2.1 ("java/util/NoSuchElementException", "java/util/NoSuchElementException") (by decide)).use rfl) (vx_c ((hE0.2.2.2.2.2.2.2.2.2.2.2.2.2.1 ⟨"java/lang/RuntimeException", "<init>", "()V"⟩ (by decide)).use rfl) (vx_c ((hE0.2.2.2.2.2.2.2.2.2.2.2.2.2.1 ⟨"java/lang/Exception", "<init>", "()V"⟩ (by decide)).use rfl) (vx_c ((hE0.2.2.2.2.2.2.2.2.2.2.2.2.2.1 ⟨"java/lang/Throwable", "<init>", "()V"⟩ (by decide)).use rfl) vx_n))))
/-- behind a throw: the world is as it was -/
abbrev xX (D : va_G) (b0 : Nat) (f : hM) : String → State → State → Prop := vx_X (fun u : hM => f = u) (fun E u t => E = "java/util/NoSuchElementException" ∧ hPost D b0 u t) (hA b0)
abbrev rm_s_X10_rule : Room := { frames := 6, cells := 1, slots := 6, locals := 81 }
set_option maxRecDepth 100000 in
set_option maxHeartbeats 4000000 in
theorem s_X10_rule (l : Launch) (hst : l.stackTraces = false) (D : va_G) (G : Nat → Nat) (b0 : Nat) (τ : Nat → Nat) (f : hM) (t : TI G 9 τ f) (u0 : Nat) (hu0 : τ u0 = 10) (u1 : Int32) (hu1 : iv u1 (-2147483648) 2147483647) (u2 : Int32) (hu2 : iv u2 (-2147483648) 2147483647) : vx_Met l yX10_rule (Cond.code yX10_rule cX10_rule 4 (some .int) :: wAll) rm_s_X10_rule (va_Pc [.ref u0, .int u1, .int u2] (hPre D G b0 f)) (va_Qi (fun r f1 => iv r (-2147483648) 2147483647 ∧ TI G 9 τ f1 ∧ Fr [] τ f f1) (hPost D b0) (hA b0)) (xX D b0 f) rm_s_X10_rule.cells rm_s_X10_rule.slots (hA b0) := by
  refine vx_ofW (cc := cX10_rule) (maxL := 4) (ret := some .int) (by decide) rfl ?_
  intro p e s m args below meth c s₁ B hml hnt hv
  obtain ⟨rfl, hP0, hb0, hz, hE0⟩ := hv
  have hts0 := atoms_spec (ws := Cond.code yX10_rule cX10_rule 4 (some .int) :: wAll) B.pre
  have hts : ∀ w ∈ wAll, w.before ([.ref u0, .int u1, .int u2] : List Value).toArray s = true := fun w hw => hts0 w (List.mem_cons_of_mem _ hw)
  have hown : s.vm.findClass RX10 = some m.cls := findClass_of_methodNamed B.named
  rw [lg_entry_eq]
  have hl := lv_entry ([.ref u0, .int u1, .int u2]) (n := 4) (Nat.le_of_ble_eq_true rfl)
  generalize (lg_sl ([.ref u0, .int u1, .int u2]) ++ List.replicate (4 - (lg_sl ([.ref u0, .int u1, .int u2])).length) Slot.unset).toArray = ls at hl ⊢
  have C : hC p s m ([.ref u0, .int u1, .int u2] : List Value).toArray meth c cX10_rule 4 RX10 D G b0 := ⟨B.exec, B.bytes, hml, hown, hts, hE0, B.notSynchronized⟩
  have h : hw D b0 s.heap f s.heap [] := ⟨hP0, hb0, va_S.rf, hz⟩
  have hr := B.returns
  show W p l e rm_s_X10_rule s m _ below meth c s.heap [] 0 0 _ _
  have hl : lv_has ls 4 [(0, .ref u0), (1, .int u1), (2, .int u2)] := hl
  obtain ⟨hx, hb, hml, hown, hts, hE0, hlk⟩ := id C
  have o := Fr.rf [] τ f
  refine lv_aload_n hx hb dX10_rule_0 rfl (lv_at hl 0 rfl) ?_
  refine t_getr (tq := 12) C h t hu0 (by decide) wf_10 rfl fl_X10_19 dX10_rule_1 (fun q1 tq1 => ?_)
  refine lv_iload_n hx hb dX10_rule_4 rfl (lv_at hl 1 rfl) ?_
  obtain ⟨_, r2⟩ := t_rec t tq1 (by decide) wf_12
  refine k_q (r_V C h hl (As := [.int u1]) (rest := []) (s_X0_findN l D G b0 τ f t q1 tq1 u1 hu1) r2 (Cn := RX0) (T := TX0) (N := 6) rfl rfl mk_X0_find w_594 w_595 w_596 w_597 ⟨Nat.le_of_ble_eq_true rfl, Nat.le_of_ble_eq_true rfl⟩ rfl (Nat.le_of_ble_eq_true rfl) ⟨Nat.le_of_ble_eq_true rfl, Nat.le_of_ble_eq_true rfl⟩ rfl dX10_rule_5) h (fun r3 f4 H locs p5 h => ?_)
  obtain ⟨qr3, tf4, ogf4, ocr3⟩ := p5
  have egf4 := Fr.nil2 ogf4
  subst egf4
  have tr3 := qr3
  refine lv_astore_nO (lv' := [(3, va_rf r3), (0, .ref u0), (1, .int u1), (2, .int u2)]) hx hb dX10_rule_8 rfl hl (by decide) rfl (fun ls hl => ?_)
  refine lv_aload_nO hx hb dX10_rule_9 rfl (lv_at hl 0 rfl) ?_
  rcases va_rfc r3 with eq7 | ⟨q7, eq7⟩
  · subst eq7
    have hl : lv_has ls 4 [(3, .null), (0, .ref u0), (1, .int u1), (2, .int u2)] := hl
    show W _ _ _ _ _ _ _ _ _ _ _ _ _ _ _ (F0 m 10 ls [.null])
    refine lv_ifnullN (tgt := 23) hx hb dX10_rule_10 (by decide) ?_
    · exact vx_throw0 (names := ["java/lang/RuntimeException", "java/lang/Exception"]) hx hb hst hown (by decide +kernel) (by decide +kernel) (hts _ w_1360) (hts _ w_120) (at0_hold hts hE0) at0_ot hE0.2.2.2.2.2.2.2.2.2.2.1 hE0.2.2.2.2.2.2.2.2.2.2.2.1 h.2.2.1 (hl.1.trans hml.symm) dX10_rule_23 dX10_rule_26 dX10_rule_27 dX10_rule_30 (fun x hx => (hnt x hx).elim) (Nat.le_of_ble_eq_true rfl) (Nat.le_of_ble_eq_true rfl) (Nat.le_of_ble_eq_true rfl) (Nat.le_of_ble_eq_true rfl) B.notSynchronized (fun t ht hz1 hk1 => ⟨f, rfl, ⟨rfl, fun a e ha => (h.1 a e ha).kept (hk1 a (h.1.lt ha)), h.2.1⟩, Nat.le_trans h.2.2.1.1 hz1, fun q h1 h2 => (hk1 q (Nat.lt_of_lt_of_le h1 h.2.2.1.1)).trans (h.2.2.1.2.1 q h1 h2)⟩) h.2.2.1.2.2 (Nat.le_of_ble_eq_true rfl) (Nat.le_of_ble_eq_true rfl)
  · subst eq7
    have tq7 : τ q7 = 1 := tr3 _ rfl
    have i8 : iv u1 0 7 := ocr3 _ rfl
    have hl : lv_has ls 4 [(3, .ref q7), (0, .ref u0), (1, .int u1), (2, .int u2)] := hl
    show W _ _ _ _ _ _ _ _ _ _ _ _ _ _ _ (F0 m 10 ls [.ref q7])
    refine lv_ifnull hx hb dX10_rule_10 ?_
    refine lv_iload_n hx hb dX10_rule_13 rfl (lv_at hl 3 rfl) ?_
    refine lv_iconst (v := 0) hx hb dX10_rule_14 (by decide) ?_
    refine lv_bipush (v := 14) hx hb dX10_rule_15 (by decide) ?_
    refine k_i (r_S C h hl (As := [.int u2, .int 0, .int 14]) (rest := []) (s_X10_within l D G b0 τ f t u2 hu2 0 (iv_w (iv_k (x := 0) (k := 0) rfl) (by decide)) 14 (iv_w (iv_k (x := 14) (k := 14) rfl) (by decide))) mk_X10_within w_425 w_426 w_427 ⟨Nat.le_of_ble_eq_true rfl, Nat.le_of_ble_eq_true rfl⟩ rfl (Nat.le_of_ble_eq_true rfl) ⟨Nat.le_of_ble_eq_true rfl, Nat.le_of_ble_eq_true rfl⟩ rfl dX10_rule_17) h (fun r9 f10 H locs p11 h => ?_)
    have n12 : (0 : Int32).toInt = 0 := rfl
    have n13 : (14 : Int32).toInt = 14 := rfl
    obtain ⟨ir9, tf10, ogf10, cnr9, czr9⟩ := p11
    have egf10 := Fr.nil2 ogf10
    subst egf10
    refine lv_if_ne (tgt := 31) hx hb dX10_rule_20 (by decide) (fun c14 => ?_) (fun c14 => ?_)
    · have c15 : r9.toInt ≠ 0 := fun z_ => c14 (Int32.toInt_inj.mp z_)
      have i16 : iv r9 1 1 := iv_Nl c15 ir9 (by decide)
      obtain ⟨i17, i18⟩ := cnr9 c15
      have i19 : iv u2 0 14 := ⟨by omega, by omega⟩
      refine lv_iload_n hx hb dX10_rule_31 rfl (lv_at hl 3 rfl) ?_
      refine lv_bipush (v := 8) hx hb dX10_rule_32 (by decide) ?_
      refine lv_icmp_ge (tgt := 44) hx hb dX10_rule_34 (by decide) (fun c23 => ?_) (fun c23 => ?_)
      · have c24 : 8 ≤ u2.toInt := Int32.le_iff_toInt_le.mp c23
        have i25 : iv u2 8 14 := iv_Er c24 (iv_k (x := 8) (k := 8) rfl) i19 (by decide)
        refine lv_iload_n hx hb dX10_rule_44 rfl (lv_at hl 3 rfl) ?_
        rcases sw_8_13 u2 with c28 | c28 | c28 | c28 | c28 | c28 | c28
        · refine lv_tableIn (tgt := 84) hx hb dX10_rule_45 (by rw [c28]; decide) (by rw [c28]; decide) (off := 39) (by rw [c28]; rfl) (by decide) ?_
          have i29 : iv u2 8 8 := by rw [c28]; exact iv_k rfl
          refine lv_aload_n hx hb dX10_rule_84 rfl (lv_at hl 0 rfl) ?_
          obtain ⟨_, r35⟩ := t_rec t tq7 (by decide) wf_1
          refine k_i (r_V C h hl (As := []) (rest := []) (s_X6_bits l D G b0 τ f t q7 tq7) r35 (Cn := RX6) (T := TX6) (N := 4) rfl rfl mk_X6_bits w_998 w_680 w_681 w_682 ⟨Nat.le_of_ble_eq_true rfl, Nat.le_of_ble_eq_true rfl⟩ rfl (Nat.le_of_ble_eq_true rfl) ⟨Nat.le_of_ble_eq_true rfl, Nat.le_of_ble_eq_true rfl⟩ rfl dX10_rule_85) h (fun r36 f37 H locs p38 h => ?_)
          obtain ⟨ir36, tf37, ogf37⟩ := p38
          have egf37 := Fr.nil2 ogf37
          subst egf37
          refine k_i (r_S C h hl (As := [.int r36]) (rest := []) (s_J6_bitCount_0f7a4 l D G b0 τ f t r36 ir36) mk_J6_bitCount_0f7a4 w_1342 w_1343 w_1344 ⟨Nat.le_of_ble_eq_true rfl, Nat.le_of_ble_eq_true rfl⟩ rfl (Nat.le_of_ble_eq_true rfl) ⟨Nat.le_of_ble_eq_true rfl, Nat.le_of_ble_eq_true rfl⟩ rfl dX10_rule_88) h (fun r39 f40 H locs p41 h => ?_)
          obtain ⟨ir39, tf40, ogf40⟩ := p41
          have egf40 := Fr.nil2 ogf40
          subst egf40
          exact vx_ret (u_iret C h hr rfl (⟨(iv_w ir39 (by decide)), t, o⟩) (Nat.le_of_ble_eq_true rfl) (Nat.le_of_ble_eq_true rfl) dX10_rule_91)
        · refine lv_tableIn (tgt := 92) hx hb dX10_rule_45 (by rw [c28]; decide) (by rw [c28]; decide) (off := 47) (by rw [c28]; rfl) (by decide) ?_
          have i30 : iv u2 9 9 := by rw [c28]; exact iv_k rfl
          refine lv_aload_n hx hb dX10_rule_92 rfl (lv_at hl 0 rfl) ?_
          obtain ⟨_, r42⟩ := t_rec t tq7 (by decide) wf_1
          refine k_i (r_V C h hl (As := []) (rest := []) (s_X6_weightTotal l D G b0 τ f t q7 tq7) r42 (Cn := RX6) (T := TX6) (N := 4) rfl rfl mk_X6_weightTotal w_636 w_637 w_638 w_639 ⟨Nat.le_of_ble_eq_true rfl, Nat.le_of_ble_eq_true rfl⟩ rfl (Nat.le_of_ble_eq_true rfl) ⟨Nat.le_of_ble_eq_true rfl, Nat.le_of_ble_eq_true rfl⟩ rfl dX10_rule_93) h (fun r43 f44 H locs p45 h => ?_)
          obtain ⟨ir43, tf44, ogf44⟩ := p45
          have egf44 := Fr.nil2 ogf44
          subst egf44
          exact vx_ret (u_iret C h hr rfl (⟨ir43, t, o⟩) (Nat.le_of_ble_eq_true rfl) (Nat.le_of_ble_eq_true rfl) dX10_rule_96)
        · refine lv_tableIn (tgt := 97) hx hb dX10_rule_45 (by rw [c28]; decide) (by rw [c28]; decide) (off := 52) (by rw [c28]; rfl) (by decide) ?_
          have i31 : iv u2 10 10 := by rw [c28]; exact iv_k rfl
          refine lv_aload_n hx hb dX10_rule_97 rfl (lv_at hl 0 rfl) ?_
          refine t_geti C h t tq7 (by decide) wf_1 rfl fl_X10_125 dX10_rule_98 (fun z46 iz46 => ?_)
          exact vx_ret (u_iret C h hr rfl (⟨(iv_w iz46 (by decide)), t, o⟩) (Nat.le_of_ble_eq_true rfl) (Nat.le_of_ble_eq_true rfl) dX10_rule_101)
        · refine lv_tableIn (tgt := 102) hx hb dX10_rule_45 (by rw [c28]; decide) (by rw [c28]; decide) (off := 57) (by rw [c28]; rfl) (by decide) ?_
          have i32 : iv u2 11 11 := by rw [c28]; exact iv_k rfl
          refine lv_aload_n hx hb dX10_rule_102 rfl (lv_at hl 0 rfl) ?_
          refine t_geti C h t tq7 (by decide) wf_1 rfl fl_X10_120 dX10_rule_103 (fun z47 iz47 => ?_)
          exact vx_ret (u_iret C h hr rfl (⟨(iv_w iz47 (by decide)), t, o⟩) (Nat.le_of_ble_eq_true rfl) (Nat.le_of_ble_eq_true rfl) dX10_rule_106)
        · refine lv_tableIn (tgt := 107) hx hb dX10_rule_45 (by rw [c28]; decide) (by rw [c28]; decide) (off := 62) (by rw [c28]; rfl) (by decide) ?_
          have i33 : iv u2 12 12 := by rw [c28]; exact iv_k rfl
          refine lv_aload_n hx hb dX10_rule_107 rfl (lv_at hl 0 rfl) ?_
          refine st_get C h (i := 0) (by decide) w_1421 dX10_rule_108 ?_
          obtain ⟨_, r48⟩ := t_rec t tq7 (by decide) wf_1
          refine k_i (r_V C h hl (As := [.ref (G (60 + 0))]) (rest := []) (s_X6_driftd0 l D G b0 τ f t q7 tq7) r48 (Cn := RX6) (T := TX6) (N := 4) rfl rfl mk_X6_drift w_1422 w_1423 w_1424 w_1425 ⟨Nat.le_of_ble_eq_true rfl, Nat.le_of_ble_eq_true rfl⟩ rfl (Nat.le_of_ble_eq_true rfl) ⟨Nat.le_of_ble_eq_true rfl, Nat.le_of_ble_eq_true rfl⟩ rfl dX10_rule_111) h (fun r49 f50 H locs p51 h => ?_)
          obtain ⟨ir49, tf50, ogf50⟩ := p51
          have egf50 := Fr.nil2 ogf50
          subst egf50
          exact vx_ret (u_iret C h hr rfl (⟨ir49, t, o⟩) (Nat.le_of_ble_eq_true rfl) (Nat.le_of_ble_eq_true rfl) dX10_rule_114)
        · refine lv_tableIn (tgt := 115) hx hb dX10_rule_45 (by rw [c28]; decide) (by rw [c28]; decide) (off := 70) (by rw [c28]; rfl) (by decide) ?_
          have i34 : iv u2 13 13 := by rw [c28]; exact iv_k rfl
          refine lv_aload_n hx hb dX10_rule_115 rfl (lv_at hl 0 rfl) ?_
          refine st_get C h (i := 1) (by decide) w_1426 dX10_rule_116 ?_
          obtain ⟨_, r52⟩ := t_rec t tq7 (by decide) wf_1
          refine k_i (r_V C h hl (As := [.ref (G (60 + 1))]) (rest := []) (s_X6_driftd1 l D G b0 τ f t q7 tq7) r52 (Cn := RX6) (T := TX6) (N := 4) rfl rfl mk_X6_drift w_1422 w_1423 w_1424 w_1425 ⟨Nat.le_of_ble_eq_true rfl, Nat.le_of_ble_eq_true rfl⟩ rfl (Nat.le_of_ble_eq_true rfl) ⟨Nat.le_of_ble_eq_true rfl, Nat.le_of_ble_eq_true rfl⟩ rfl dX10_rule_119) h (fun r53 f54 H locs p55 h => ?_)
          obtain ⟨ir53, tf54, ogf54⟩ := p55
          have egf54 := Fr.nil2 ogf54
          subst egf54
          exact vx_ret (u_iret C h hr rfl (⟨ir53, t, o⟩) (Nat.le_of_ble_eq_true rfl) (Nat.le_of_ble_eq_true rfl) dX10_rule_122)
        · refine lv_tableOut (tgt := 123) hx hb dX10_rule_45 c28 (by decide) ?_
          refine lv_aload_n hx hb dX10_rule_123 rfl (lv_at hl 0 rfl) ?_
          obtain ⟨_, r56⟩ := t_rec t tq7 (by decide) wf_1
          refine k_i (r_V C h hl (As := []) (rest := []) (s_X6_bits l D G b0 τ f t q7 tq7) r56 (Cn := RX6) (T := TX6) (N := 4) rfl rfl mk_X6_bits w_998 w_680 w_681 w_682 ⟨Nat.le_of_ble_eq_true rfl, Nat.le_of_ble_eq_true rfl⟩ rfl (Nat.le_of_ble_eq_true rfl) ⟨Nat.le_of_ble_eq_true rfl, Nat.le_of_ble_eq_true rfl⟩ rfl dX10_rule_124) h (fun r57 f58 H locs p59 h => ?_)
          obtain ⟨ir57, tf58, ogf58⟩ := p59
          have egf58 := Fr.nil2 ogf58
          subst egf58
          exact vx_ret (u_iret C h hr rfl (⟨ir57, t, o⟩) (Nat.le_of_ble_eq_true rfl) (Nat.le_of_ble_eq_true rfl) dX10_rule_127)
      · have c26 : u2.toInt < 8 := Int32.lt_iff_toInt_lt.mp (iv_nle c23)
        have i27 : iv u2 0 7 := iv_Ll c26 i19 (iv_k (x := 8) (k := 8) rfl) (by decide)
        refine lv_aload_n hx hb dX10_rule_37 rfl (lv_at hl 0 rfl) ?_
        refine t_getr (tq := 2) C h t tq7 (by decide) wf_1 rfl fl_X10_135 dX10_rule_38 (fun q60 tq60 => ?_)
        refine lv_iload_n hx hb dX10_rule_41 rfl (lv_at hl 3 rfl) ?_
        refine t_iald C h t tq60 (by decide) wf_2 (iv_in i27 (by decide)) dX10_rule_42 (fun z61 iz61 => ?_)
        exact vx_ret (u_iret C h hr rfl (⟨(iv_w iz61 (by decide)), t, o⟩) (Nat.le_of_ble_eq_true rfl) (Nat.le_of_ble_eq_true rfl) dX10_rule_43)
    · have c20 : r9.toInt = 0 := congrArg Int32.toInt c14
      have i21 : iv r9 0 0 := iv_Q c20 ir9 (iv_k (x := 0) (k := 0) rfl) (by decide)
      have i22 := czr9 c20
      · exact vx_throw0 (names := ["java/lang/RuntimeException", "java/lang/Exception"]) hx hb hst hown (by decide +kernel) (by decide +kernel) (hts _ w_1360) (hts _ w_120) (at0_hold hts hE0) at0_ot hE0.2.2.2.2.2.2.2.2.2.2.1 hE0.2.2.2.2.2.2.2.2.2.2.2.1 h.2.2.1 (hl.1.trans hml.symm) dX10_rule_23 dX10_rule_26 dX10_rule_27 dX10_rule_30 (fun x hx => (hnt x hx).elim) (Nat.le_of_ble_eq_true rfl) (Nat.le_of_ble_eq_true rfl) (Nat.le_of_ble_eq_true rfl) (Nat.le_of_ble_eq_true rfl) B.notSynchronized (fun t ht hz1 hk1 => ⟨f, rfl, ⟨rfl, fun a e ha => (h.1 a e ha).kept (hk1 a (h.1.lt ha)), h.2.1⟩, Nat.le_trans h.2.2.1.1 hz1, fun q h1 h2 => (hk1 q (Nat.lt_of_lt_of_le h1 h.2.2.1.1)).trans (h.2.2.1.2.1 q h1 h2)⟩) h.2.2.1.2.2 (Nat.le_of_ble_eq_true rfl) (Nat.le_of_ble_eq_true rfl)
