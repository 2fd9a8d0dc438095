theorem dX11_rule_0 : decode cX11_rule 0 = .ok (.aload_n 0, 1) := by decide +kernel
theorem dX11_rule_1 : decode cX11_rule 1 = .ok (.aload_n 0, 1) := by decide +kernel
theorem dX11_rule_2 : decode cX11_rule 2 = .ok (.iload_n 1, 1) := by decide +kernel
theorem dX11_rule_3 : decode cX11_rule 3 = .ok (.invokevirtual 171, 3) := by decide +kernel
theorem dX11_rule_6 : decode cX11_rule 6 = .ok (.ifCond .eq 19, 3) := by decide +kernel
theorem dX11_rule_25 : decode cX11_rule 25 = .ok (.iconst 1, 1) := by decide +kernel
theorem dX11_rule_26 : decode cX11_rule 26 = .ok (.putfield 75, 3) := by decide +kernel
theorem dX11_rule_29 : decode cX11_rule 29 = .ok (.aload_n 0, 1) := by decide +kernel
theorem dX11_rule_30 : decode cX11_rule 30 = .ok (.getfield 75, 3) := by decide +kernel
theorem fl_X11_75 : fl RX11 75 12 0 := ⟨RX11, TX11, 32, rfl, inA_X11, by decide, w_1433⟩
theorem dX11_rule_33 : decode cX11_rule 33 = .ok (.ifCond .le 5, 3) := by decide +kernel
theorem dX11_rule_36 : decode cX11_rule 36 = .ok (.iconst 0, 1) := by decide +kernel
theorem dX11_rule_37 : decode cX11_rule 37 = .ok (.ireturn, 1) := by decide +kernel
theorem dX11_thrown_0 : decode cX11_thrown 0 = .ok (.aload_n 0, 1) := by decide +kernel
theorem dX11_thrown_1 : decode cX11_thrown 1 = .ok (.getfield 75, 3) := by decide +kernel
theorem dX11_thrown_4 : decode cX11_thrown 4 = .ok (.ireturn, 1) := by decide +kernel
theorem dL_rule_0 : decode cL_rule 0 = .ok (.aload_n 3, 1) := by decide +kernel
theorem dL_rule_1 : decode cL_rule 1 = .ok (.iconst 0, 1) := by decide +kernel
theorem dL_rule_2 : decode cL_rule 2 = .ok (.aload_n 0, 1) := by decide +kernel
theorem dL_rule_3 : decode cL_rule 3 = .ok (.iload_n 1, 1) := by decide +kernel
theorem dL_rule_4 : decode cL_rule 4 = .ok (.iload_n 2, 1) := by decide +kernel
theorem dL_rule_5 : decode cL_rule 5 = .ok (.invokevirtual 7, 3) := by decide +kernel
theorem dL_rule_13 : decode cL_rule 13 = .ok (.astore 4, 2) := by decide +kernel
theorem dL_rule_15 : decode cL_rule 15 = .ok (.iconst 1, 1) := by decide +kernel
theorem dL_rule_16 : decode cL_rule 16 = .ok (.ireturn, 1) := by decide +kernel
theorem w_1358 : Cond.selects yX10_rule.cls yX10_rule yX10_rule ∈ wAll := wIn 1358 (by decide +kernel) (by decide +kernel)
theorem w_1356 : Cond.methodLink "QuarterWalksLaw" 7 yX10_rule ∈ wAll := wIn 1356 (by decide +kernel) (by decide +kernel)
theorem w_1354 : Cond.codeWith yL_rule cL_rule 5 (some .int) [(0, 10, 13, 13)] ∈ wAll := wIn 1354 (by decide +kernel) (by decide +kernel)
theorem w_1359 : Cond.code yX10_rule cX10_rule 4 (some .int) ∈ wAll := wIn 1359 (by decide +kernel) (by decide +kernel)
theorem mk_X10_rule : mk yX10_rule 2 := ⟨by decide +kernel, w_96⟩
theorem w_1357 : Cond.instanceMethod yX10_rule ∈ wAll := wIn 1357 (by decide +kernel) (by decide +kernel)
theorem w_1355 : Cond.classLink "QuarterWalksLaw" 13 "java/util/NoSuchElementException" ∈ wAll := wIn 1355 (by decide +kernel) (by decide +kernel)
set_option maxRecDepth 100000 in
set_option maxHeartbeats 4000000 in
theorem c_X11_rule (l : Launch) (D : va_G) (G : Nat → Nat) (b0 : Nat) (f : hM) (M : Nat → Nat) (hM : mw G f M) (p0 p1 : Int32) : mI l yX11_rule cX11_rule 3 (.int) { frames := 2, cells := 0, slots := 0, locals := 46 } D G b0 f [.ref (M 0), .int p0, .int p1] (fun r f1 => (0 : Int32) = r ∧ hu f (M 0) (.inr (12, [.int 1, .ref (M 1), .int 0, .int 0, .int 0, .ref (M 2), .ref (M 3), .ref (M 4), .ref (M 5), .ref (M 6), .int 0, .int 0, .ref (M 7), .ref (M 8), .int 0, .ref (M 9), .ref (M 10), .ref (M 11), .long 0, .ref (M 12), .ref (M 13), .ref (M 14), .ref (M 15), .ref (M 16), .ref (M 17), .ref (M 18), .ref (M 19), .int 0, .int 0, .ref (M 20), .ref (M 21), .int 0])) = f1) := by
  refine met_of (own := RX11) (by decide) rfl (Nat.le_of_ble_eq_true rfl) ?_
  intro p e s m below meth c ls C hr hini hl h
  have hl : lv_has ls 3 [(0, .ref (M 0)), (1, .int p0), (2, .int p1)] := hl
  obtain ⟨hx, hb, hml, hown, hts, hE0, hlk⟩ := id C
  obtain ⟨km0, km1, km2, km3, km4, km5⟩ := hM
  refine lv_aload_n hx hb dX11_rule_0 rfl (lv_at hl 0 rfl) ?_
  refine lv_aload_n hx hb dX11_rule_1 rfl (lv_at hl 0 rfl) ?_
  refine lv_iload_n hx hb dX11_rule_2 rfl (lv_at hl 1 rfl) ?_
  refine k_i (r_V C h hl (As := [.int p0]) (rest := [.ref (M 0)]) (c_X11_isSet l D G b0 f M ⟨km0, km1, km2, km3, km4, km5⟩ p0) km0 (Cn := RX11) (T := TX11) (N := 32) rfl rfl mk_X11_isSet w_1624 w_1626 w_51 w_1627 ⟨Nat.le_of_ble_eq_true rfl, Nat.le_of_ble_eq_true rfl⟩ rfl (Nat.le_of_ble_eq_true rfl) ⟨Nat.le_of_ble_eq_true rfl, Nat.le_of_ble_eq_true rfl⟩ rfl dX11_rule_3) h (fun r_3592 f_3593 H locs p_3594 h => ?_)
  obtain ⟨e_, rfl⟩ := p_3594
  subst e_
  refine lv_if_eq (tgt := 25) hx hb dX11_rule_6 (by decide) (fun c_3595 => ?_) (fun c_3595 => ?_)
  · refine lv_iconst (v := 1) hx hb dX11_rule_25 (by decide) ?_
    refine q_put C h km0 flw_X11_75 (Or.inr ⟨_, _, _, rfl, rfl⟩) (v := .int 1) rfl rfl (Nat.le_of_ble_eq_true rfl) dX11_rule_26 (fun H locs h => ?_)
    have h : hw D b0 s.heap (hu f (M 0) (.inr (12, [.int 1, .ref (M 1), .int 0, .int 0, .int 0, .ref (M 2), .ref (M 3), .ref (M 4), .ref (M 5), .ref (M 6), .int 0, .int 0, .ref (M 7), .ref (M 8), .int 0, .ref (M 9), .ref (M 10), .ref (M 11), .long 0, .ref (M 12), .ref (M 13), .ref (M 14), .ref (M 15), .ref (M 16), .ref (M 17), .ref (M 18), .ref (M 19), .int 0, .int 0, .ref (M 20), .ref (M 21), .int 0]))) H locs := h
    generalize ef_3596 : hu f (M 0) (.inr (12, [.int 1, .ref (M 1), .int 0, .int 0, .int 0, .ref (M 2), .ref (M 3), .ref (M 4), .ref (M 5), .ref (M 6), .int 0, .int 0, .ref (M 7), .ref (M 8), .int 0, .ref (M 9), .ref (M 10), .ref (M 11), .long 0, .ref (M 12), .ref (M 13), .ref (M 14), .ref (M 15), .ref (M 16), .ref (M 17), .ref (M 18), .ref (M 19), .int 0, .int 0, .ref (M 20), .ref (M 21), .int 0])) = f_3596 at h
    have k_3597 : f_3596 (M 1) = some (.inl (G 0, 200, .inl (fun _ => 0))) := by rw [← ef_3596]; exact hu_at km1 (hne (4, 12) (1, 200) km0 km1 rfl rfl (by decide))
    have k_3598 : f_3596 (M 2) = some (.inl (G 1, 10, .inl (fun _ => 0))) := by rw [← ef_3596]; exact hu_at km2 (hne (4, 12) (1, 10) km0 km2 rfl rfl (by decide))
    have k_3599 : f_3596 (M 3) = some (.inl (G 1, 81, .inl (fun _ => 0))) := by rw [← ef_3596]; exact hu_at km3 (hne (4, 12) (1, 81) km0 km3 rfl rfl (by decide))
    have k_3600 : f_3596 (M 4) = some (.inl (G 1, 81, .inl (fun _ => 0))) := by rw [← ef_3596]; exact hu_at km4 (hne (4, 12) (1, 81) km0 km4 rfl rfl (by decide))
    have k_3601 : f_3596 (M 6) = some (.inl (G 1, 4, .inl (fun _ => 0))) := by rw [← ef_3596]; exact hu_at km5 (hne (4, 12) (1, 4) km0 km5 rfl rfl (by decide))
    have k_3602 : f_3596 (M 0) = some (.inr (12, [.int 1, .ref (M 1), .int 0, .int 0, .int 0, .ref (M 2), .ref (M 3), .ref (M 4), .ref (M 5), .ref (M 6), .int 0, .int 0, .ref (M 7), .ref (M 8), .int 0, .ref (M 9), .ref (M 10), .ref (M 11), .long 0, .ref (M 12), .ref (M 13), .ref (M 14), .ref (M 15), .ref (M 16), .ref (M 17), .ref (M 18), .ref (M 19), .int 0, .int 0, .ref (M 20), .ref (M 21), .int 0])) := by rw [← ef_3596]; exact hu_self _ _ _
    refine lv_aload_n hx hb dX11_rule_29 rfl (lv_at hl 0 rfl) ?_
    refine q_get C h k_3602 fl_X11_75 (v := .int 1) rfl dX11_rule_30 ?_
    refine lv_if_le (tgt := 38) hx hb dX11_rule_33 (by decide) (fun c_3603 => ?_) (fun c_3603 => ?_)
    · exact absurd c_3603 (by decide)
    · refine lv_iconst (v := 0) hx hb dX11_rule_36 (by decide) ?_
      exact q_iret C h hr (⟨rfl, by first | exact ef_3596 | rfl⟩) (Nat.le_of_ble_eq_true rfl) (Nat.le_of_ble_eq_true rfl) dX11_rule_37
  · exact absurd c_3595 (by decide)
set_option maxRecDepth 100000 in
set_option maxHeartbeats 4000000 in
theorem c_X11_thrown (l : Launch) (D : va_G) (G : Nat → Nat) (b0 : Nat) (f : hM) (M : Nat → Nat) (k1 : f (M 0) = some (.inr (12, [.int 1, .ref (M 1), .int 0, .int 0, .int 0, .ref (M 2), .ref (M 3), .ref (M 4), .ref (M 5), .ref (M 6), .int 0, .int 0, .ref (M 7), .ref (M 8), .int 0, .ref (M 9), .ref (M 10), .ref (M 11), .long 0, .ref (M 12), .ref (M 13), .ref (M 14), .ref (M 15), .ref (M 16), .ref (M 17), .ref (M 18), .ref (M 19), .int 0, .int 0, .ref (M 20), .ref (M 21), .int 0]))) : mI l yX11_thrown cX11_thrown 1 (.int) { frames := 0, cells := 0, slots := 0, locals := 0 } D G b0 f [.ref (M 0)] (fun r f1 => (1 : Int32) = r ∧ f = f1) := by
  refine met_of (own := RX11) (by decide) rfl (Nat.le_of_ble_eq_true rfl) ?_
  intro p e s m below meth c ls C hr hini hl h
  have hl : lv_has ls 1 [(0, .ref (M 0))] := hl
  obtain ⟨hx, hb, hml, hown, hts, hE0, hlk⟩ := id C
  refine lv_aload_n hx hb dX11_thrown_0 rfl (lv_at hl 0 rfl) ?_
  refine q_get C h k1 fl_X11_75 (v := .int 1) rfl dX11_thrown_1 ?_
  exact q_iret C h hr (⟨rfl, rfl⟩) (Nat.le_of_ble_eq_true rfl) (Nat.le_of_ble_eq_true rfl) dX11_thrown_4

set_option maxRecDepth 100000 in
set_option maxHeartbeats 4000000 in
theorem c_L_rule (l : Launch) (hst : l.stackTraces = false) (D : va_G) (G : Nat → Nat) (b0 : Nat) (f : hM) (X : Nat → Nat) (hX : xw G f X) (p0 p1 : Int32) (o : Nat) : vx_Met l yL_rule (Cond.codeWith yL_rule cL_rule 5 (some .int) [(0, 10, 13, 13)] :: wAll) { frames := 7, cells := 1, slots := 6, locals := 104 } (va_Pc [.ref (X 0), .int p0, .int p1, .ref o] (hPre D G b0 f)) (va_Qi (fun (r : Int32) (f1 : hM) => 1 = r ∧ f = f1) (hPost D b0) (hA b0)) (vx_X (fun (_ : hM) => False) (fun _ _ _ => True) (hA b0)) 1 6 (hA b0) := by
  refine vx_ofWH (cc := cL_rule) (maxL := 5) (ret := some .int) (hh := [(0, 10, 13, 13)]) (by decide) rfl ?_
  intro p e s m args below meth c s₁ B hml hv
  obtain ⟨rfl, hP0, hb0, hz, hE0⟩ := hv
  have hts0 := atoms_spec (ws := Cond.codeWith yL_rule cL_rule 5 (some .int) [(0, 10, 13, 13)] :: wAll) B.pre
  have htab : c.exceptionTable.toList = [] ++ (⟨0, 10, 13, 13⟩ : ExceptionTableEntry) :: [] := vx_table (x := yL_rule) B (hts0 _ List.mem_cons_self)
  have hts : ∀ w ∈ wAll, w.before [Value.ref (X 0), .int p0, .int p1, .ref o].toArray s = true := fun w hw => hts0 w (List.mem_cons_of_mem _ hw)
  have hown : s.vm.findClass RL = some m.cls := findClass_of_methodNamed B.named
  rw [lg_entry_eq]
  have hl := lv_entry ([.ref (X 0), .int p0, .int p1, .ref o]) (n := 5) (Nat.le_of_ble_eq_true rfl)
  generalize (lg_sl ([.ref (X 0), .int p0, .int p1, .ref o]) ++ List.replicate (5 - (lg_sl ([.ref (X 0), .int p0, .int p1, .ref o])).length) Slot.unset).toArray = ls at hl ⊢
  have hl : lv_has ls 5 [(0, .ref (X 0)), (1, .int p0), (2, .int p1), (3, .ref o)] := hl
  have C : hC p s m [Value.ref (X 0), .int p0, .int p1, .ref o].toArray meth c cL_rule 5 RL D G b0 := ⟨B.exec, B.bytes, hml, hown, hts, hE0, B.notSynchronized⟩
  have h : hw D b0 s.heap f s.heap [] := ⟨hP0, hb0, va_S.rf, hz⟩
  have hx := B.exec
  have hb := B.bytes
  have hr := B.returns
  show W p l e { frames := 7, cells := 1, slots := 6, locals := 104 } s m _ below meth c s.heap [] 0 0 _ _
  have kx0 := hX.1
  refine lv_aload_n hx hb dL_rule_0 rfl (lv_at hl 3 rfl) ?_
  refine lv_iconst (v := 0) hx hb dL_rule_1 (by decide) ?_
  refine lv_aload_n hx hb dL_rule_2 rfl (lv_at hl 0 rfl) ?_
  refine lv_iload_n hx hb dL_rule_3 rfl (lv_at hl 1 rfl) ?_
  refine lv_iload_n hx hb dL_rule_4 rfl (lv_at hl 2 rfl) ?_
  refine vx_calli (vx_runV (Ts := wAll) (own := RL) (C := RX10) (bytes := cX10_rule) (maxL := 4) (ret := some .int) (As := [.int p0, .int p1]) (rest := [.int 0, .ref o]) ⟨hx, hb, hml, hown, hts⟩ (c_X10_rule l hst D G b0 f X hX p0 p1) ⟨callB_of 2 hts (wAll_in w_1359) rfl rfl rfl (hts _ mk_X10_rule.2) (hts _ w_1356) mk_X10_rule.1 ⟨Nat.le_of_ble_eq_true rfl, Nat.le_of_ble_eq_true rfl⟩, hts _ w_1357, hts _ w_1358⟩ ⟨hPre_blind _, va_recv hE0.1 (h.1.one kx0) (ci := 11) rfl (q0 := 0) rfl, hPre_of C h _⟩ rfl rfl hl.1 rfl (lv_room (Nat.le_of_ble_eq_true rfl)) dL_rule_5 ⟨Nat.le_of_ble_eq_true rfl, Nat.le_of_ble_eq_true rfl⟩) h.2.2.1 (fun q _ h => h) (fun q h => h) (fun q _ h => h) ?_ (fun r u t H1 locs1 _ _ hp => hp.elim)
  intro E ce q9 u t H1 locs1 ht hvm hpx hB hz1 hk1 hS hcell hcv hcl
  subst hpx
  obtain ⟨rfl, hB1, hB2⟩ := hB
  have h : hw D b0 s.heap f H1 locs1 := ⟨by rw [← ht]; exact hB1, hB2, hS, hz⟩
  refine vx_catch (own := RL) (name := "java/util/NoSuchElementException") hown [] ⟨0, 10, 13, 13⟩ [] htab (fun z hz => by cases hz) (by decide) (by decide) (hts _ w_1355) ((hE0.2.2.2.2.2.2.2.2.2.2.2.2.1 ("java/util/NoSuchElementException", "java/util/NoSuchElementException") (by decide)).use rfl) hcell hcv hcl ?_
  show W _ _ _ _ _ _ _ _ _ _ _ _ _ _ _ (F0 m 13 ls [.ref q9])
  refine lv_astore (lv' := [(4, .ref q9), (0, .ref (X 0)), (1, .int p0), (2, .int p1), (3, .ref o)]) hx hb dL_rule_13 hl (by decide) rfl (fun ls hl => ?_)
  refine lv_iconst (v := 1) hx hb dL_rule_15 (by decide) ?_
  exact vx_ret (q_iret C h hr ⟨rfl, rfl⟩ (Nat.le_of_ble_eq_true rfl) (Nat.le_of_ble_eq_true rfl) dL_rule_16)
