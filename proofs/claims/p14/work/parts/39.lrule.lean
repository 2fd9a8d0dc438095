theorem dL_rule_0 : decode cL_rule 0 = .ok (.aload_n 3, 1) := by decide +kernel
theorem dL_rule_1 : decode cL_rule 1 = .ok (.iconst 0, 1) := by decide +kernel
theorem dL_rule_2 : decode cL_rule 2 = .ok (.aload_n 0, 1) := by decide +kernel
theorem dL_rule_3 : decode cL_rule 3 = .ok (.iload_n 1, 1) := by decide +kernel
theorem dL_rule_4 : decode cL_rule 4 = .ok (.iload_n 2, 1) := by decide +kernel
theorem dL_rule_5 : decode cL_rule 5 = .ok (.invokevirtual 7, 3) := by decide +kernel
theorem dL_rule_8 : decode cL_rule 8 = .ok (.i2l, 1) := by decide +kernel
theorem dL_rule_9 : decode cL_rule 9 = .ok (.lastore, 1) := by decide +kernel
theorem dL_rule_10 : decode cL_rule 10 = .ok (.goto 7, 3) := by decide +kernel
theorem dL_rule_13 : decode cL_rule 13 = .ok (.astore 4, 2) := by decide +kernel
theorem dL_rule_15 : decode cL_rule 15 = .ok (.iconst 1, 1) := by decide +kernel
theorem dL_rule_16 : decode cL_rule 16 = .ok (.ireturn, 1) := by decide +kernel
theorem dL_rule_17 : decode cL_rule 17 = .ok (.iconst 0, 1) := by decide +kernel
theorem dL_rule_18 : decode cL_rule 18 = .ok (.ireturn, 1) := by decide +kernel
theorem w_1356 : Cond.methodLink "QuarterWalksLaw" 7 yX10_rule ∈ wAll := wI6 61 (by decide +kernel) (by decide +kernel)
theorem w_1354 : Cond.codeWith yL_rule cL_rule 5 (some .int) [(0, 10, 13, 13)] ∈ wAll := wI6 59 (by decide +kernel) (by decide +kernel)
theorem w_1359 : Cond.code yX10_rule cX10_rule 4 (some .int) ∈ wAll := wI6 64 (by decide +kernel) (by decide +kernel)
theorem mk_X10_rule : mk yX10_rule 2 := ⟨by decide +kernel, w_96⟩
theorem w_1357 : Cond.instanceMethod yX10_rule ∈ wAll := wI6 62 (by decide +kernel) (by decide +kernel)
theorem w_1358 : Cond.selects yX10_rule.cls yX10_rule yX10_rule ∈ wAll := wI6 63 (by decide +kernel) (by decide +kernel)
theorem w_1355 : Cond.classLink "QuarterWalksLaw" 13 "java/util/NoSuchElementException" ∈ wAll := wI6 60 (by decide +kernel) (by decide +kernel)
theorem w_1352 : Cond.methodLink "QuarterWalksLaw" 68 yL_rule ∈ wAll := wI6 57 (by decide +kernel) (by decide +kernel)
theorem w_1353 : Cond.static yL_rule ∈ wAll := wI6 58 (by decide +kernel) (by decide +kernel)
theorem w_95 : Cond.initialized yL_rule.cls ∈ wAll := wI1 0 (by decide +kernel) (by decide +kernel)
theorem LI.cx {G : Nat → Nat} {τ : Nat → Nat} {f : hM} {K sh qs M : Nat → Nat} {o : Nat} (h : LI G τ f K sh qs M o) : ∃ fs, f (K 0) = some (.inr (11, fs)) := by
  obtain ⟨t, X, -⟩ := h
  obtain ⟨e, h1, fs, rfl, -⟩ := t.at X.1.1 (by decide)
  exact ⟨fs, h1⟩
theorem LIP.cm {G : Nat → Nat} {τ : Nat → Nat} {f : hM} {K sh qs M : Nat → Nat} {o : Nat} {P : Int → Int → Int → (Nat → Int) → (Nat → Int32) → (Nat → Int32) → (Nat → Int32) → Prop} (h : LIP G τ f K sh qs M o P) : ∃ fs, f (M 0) = some (.inr (12, fs)) := by
  obtain ⟨⟨t, -, -, m, -⟩, -⟩ := h
  obtain ⟨e, h1, fs, rfl, -⟩ := t.at m.1.1 (by decide)
  exact ⟨fs, h1⟩
theorem LI.cm {G : Nat → Nat} {τ : Nat → Nat} {f : hM} {K sh qs M : Nat → Nat} {o : Nat} (h : LI G τ f K sh qs M o) : ∃ fs, f (M 0) = some (.inr (12, fs)) := h.lp.cm
theorem law_c1 {c k : Nat} (hc : c + 49 ≤ 601024) (hk : k ≤ 49) : c + k ≤ 601024 := by omega
theorem law_c2 {c k1 k2 : Nat} (hc : c + 49 ≤ 601024) (hk : k1 + k2 ≤ 49) : c + k1 + k2 ≤ 601024 := by omega
theorem law_s1 {c k : Nat} (hc : c + 4900 ≤ 7293034) (hk : k ≤ 4900) : c + k ≤ 7293034 := by omega
theorem law_s2 {c k1 k2 : Nat} (hc : c + 4900 ≤ 7293034) (hk : k1 + k2 ≤ 4900) : c + k1 + k2 ≤ 7293034 := by omega
theorem law_w {c k1 k2 n : Nat} (h : k1 + k2 ≤ n) : c + k1 + k2 ≤ c + n := by omega

set_option maxRecDepth 100000 in
set_option maxHeartbeats 4000000 in
theorem c_L_rule (l : Launch) (hst : l.stackTraces = false) (D : va_G) (G : Nat → Nat) (b0 : Nat) {τ : Nat → Nat} {f : hM} {K sh qs M : Nat → Nat} {o : Nat} (h0 : LI G τ f K sh qs M o) (p0 p1 : Int32) : vx_Met l yL_rule (Cond.codeWith yL_rule cL_rule 5 (some .int) [(0, 10, 13, 13)] :: wAll) { frames := 7, cells := 1, slots := 6, locals := 104 } (va_Pc [.ref (K 0), .int p0, .int p1, .ref o] (hPre D G b0 f)) (va_Qi (fun (_ : Int32) (f1 : hM) => ∃ τ1, LI G τ1 f1 K sh qs M o) (hPost D b0) (hA b0)) (vx_X (fun (_ : hM) => False) (fun _ _ _ => True) (hA b0)) 1 6 (hA b0) := by
  refine vx_ofWH (cc := cL_rule) (maxL := 5) (ret := some .int) (hh := [(0, 10, 13, 13)]) (by decide) rfl ?_
  intro p e s m args below meth c s₁ B hml hv
  obtain ⟨rfl, hP0, hb0, hz, hE0⟩ := hv
  have hts0 := atoms_spec (ws := Cond.codeWith yL_rule cL_rule 5 (some .int) [(0, 10, 13, 13)] :: wAll) B.pre
  have htab : c.exceptionTable.toList = [] ++ (⟨0, 10, 13, 13⟩ : ExceptionTableEntry) :: [] := vx_table (x := yL_rule) B (hts0 _ List.mem_cons_self)
  have hts : ∀ w ∈ wAll, w.before [Value.ref (K 0), .int p0, .int p1, .ref o].toArray s = true := fun w hw => hts0 w (List.mem_cons_of_mem _ hw)
  have hown : s.vm.findClass RL = some m.cls := findClass_of_methodNamed B.named
  rw [lg_entry_eq]
  have hl := lv_entry ([.ref (K 0), .int p0, .int p1, .ref o]) (n := 5) (Nat.le_of_ble_eq_true rfl)
  generalize (lg_sl ([.ref (K 0), .int p0, .int p1, .ref o]) ++ List.replicate (5 - (lg_sl ([.ref (K 0), .int p0, .int p1, .ref o])).length) Slot.unset).toArray = ls at hl ⊢
  have hl : lv_has ls 5 [(0, .ref (K 0)), (1, .int p0), (2, .int p1), (3, .ref o)] := hl
  have C : hC p s m [Value.ref (K 0), .int p0, .int p1, .ref o].toArray meth c cL_rule 5 RL D G b0 := ⟨B.exec, B.bytes, hml, hown, hts, hE0, B.notSynchronized⟩
  have h : hw D b0 s.heap f s.heap [] := ⟨hP0, hb0, va_S.rf, hz⟩
  have hx := B.exec
  have hb := B.bytes
  have hr := B.returns
  show W p l e { frames := 7, cells := 1, slots := 6, locals := 104 } s m _ below meth c s.heap [] 0 0 _ _
  obtain ⟨fs, kx0⟩ := h0.cx
  refine lv_aload_n hx hb dL_rule_0 rfl (lv_at hl 3 rfl) ?_
  refine lv_iconst (v := 0) hx hb dL_rule_1 (by decide) ?_
  refine lv_aload_n hx hb dL_rule_2 rfl (lv_at hl 0 rfl) ?_
  refine lv_iload_n hx hb dL_rule_3 rfl (lv_at hl 1 rfl) ?_
  refine lv_iload_n hx hb dL_rule_4 rfl (lv_at hl 2 rfl) ?_
  refine vx_calli (vx_runV (Ts := wAll) (own := RL) (C := RX10) (bytes := cX10_rule) (maxL := 4) (ret := some .int) (As := [.int p0, .int p1]) (rest := [.int 0, .ref o]) ⟨hx, hb, hml, hown, hts⟩ (s_X10_rule l hst D G b0 τ f h0.1 (K 0) h0.2.1.1.1 p0 (iv_any _) p1 (iv_any _)) ⟨callB_of 2 hts (wAll_in w_1359) rfl rfl rfl (hts _ mk_X10_rule.2) (hts _ w_1356) mk_X10_rule.1 ⟨Nat.le_of_ble_eq_true rfl, Nat.le_of_ble_eq_true rfl⟩, hts _ w_1357, hts _ w_1358⟩ ⟨hPre_blind _, va_recv hE0.1 (h.1.one kx0) (ci := 11) rfl (q0 := 0) rfl, hPre_of C h _⟩ rfl rfl hl.1 rfl (lv_room (Nat.le_of_ble_eq_true rfl)) dL_rule_5 ⟨Nat.le_of_ble_eq_true rfl, Nat.le_of_ble_eq_true rfl⟩) h.2.2.1 (fun q _ h => h) (fun q h => h) (fun q _ h => h) ?_ (fun r u t H1 locs1 ht hvm hp hB hz1 hk1 hS => ?_)
  · intro E ce q9 u t H1 locs1 ht hvm hpx hB hz1 hk1 hS hcell hcv hcl
    subst hpx
    obtain ⟨rfl, hB1, hB2⟩ := hB
    have h : hw D b0 s.heap f H1 locs1 := ⟨by rw [← ht]; exact hB1, hB2, hS, hz⟩
    refine vx_catch (own := RL) (name := "java/util/NoSuchElementException") hown [] ⟨0, 10, 13, 13⟩ [] htab (fun z hz => by cases hz) (by decide) (by decide) (hts _ w_1355) ((hE0.2.2.2.2.2.2.2.2.2.2.2.2.1 ("java/util/NoSuchElementException", "java/util/NoSuchElementException") (by decide)).use rfl) hcell hcv hcl ?_
    show W _ _ _ _ _ _ _ _ _ _ _ _ _ _ _ (F0 m 13 ls [.ref q9])
    refine lv_astore (lv' := [(4, .ref q9), (0, .ref (K 0)), (1, .int p0), (2, .int p1), (3, .ref o)]) hx hb dL_rule_13 hl (by decide) rfl (fun ls hl => ?_)
    refine lv_iconst (v := 1) hx hb dL_rule_15 (by decide) ?_
    exact vx_ret (q_iret C h hr ⟨τ, h0⟩ (Nat.le_of_ble_eq_true rfl) (Nat.le_of_ble_eq_true rfl) dL_rule_16)
  · obtain ⟨-, t1, r1⟩ := hp
    have e1 := Fr.nil r1
    subst e1
    have h : hw D b0 s.heap u H1 locs1 := ⟨by rw [← ht]; exact hB.1, hB.2, hS, hz⟩
    obtain ⟨e9, ho1, r9, rfl⟩ := h0.1.at h0.2.2.2.2.2.1 (by decide)
    refine lv_i2l (v := Int32.toInt64 r) hx hb dL_rule_8 rfl ?_
    refine q_last C h ho1 (vp_in_iff.mpr ⟨by decide, by decide⟩) dL_rule_9 (fun H2 locs2 h => ?_)
    have t2 := h0.1.up h0.2.2.2.2.2.1 (fw_79 (.inl (G 2, 1, .inr (.inl (vp_updL r9 (Int32.toNatClampNeg 0) (Int32.toInt64 r))))) ⟨_, rfl⟩)
    have r2 := (Fr.rf [79] τ u).upA (e := .inl (G 2, 1, .inr (.inl (vp_updL r9 (Int32.toNatClampNeg 0) (Int32.toInt64 r))))) h0.2.2.2.2.2.1 (by decide) ho1
    have h2 := h0.xg t2 r2 (Ex.rf τ) (by decide) (by decide) (by decide)
    refine lv_goto (tgt := 17) hx hb dL_rule_10 (by decide) ?_
    refine lv_iconst (v := 0) hx hb dL_rule_17 (by decide) ?_
    exact vx_ret (q_iret C h hr ⟨τ, h2⟩ (Nat.le_of_ble_eq_true rfl) (Nat.le_of_ble_eq_true rfl) dL_rule_18)
theorem lrule_in : GoodIn wAll (va_wsS RL 68 yL_rule (Cond.codeWith yL_rule cL_rule 5 (some .int) [(0, 10, 13, 13)] :: wAll)) := fun w hw => by
  rcases List.mem_append.mp hw with h | h
  · have : w ∈ wAll := (List.forall_mem_cons.mpr ⟨w_1352, List.forall_mem_cons.mpr ⟨w_1353, List.forall_mem_cons.mpr ⟨w_95, fun _ h => absurd h List.not_mem_nil⟩⟩⟩ : ∀ w ∈ ([.methodLink RL 68 yL_rule, .static yL_rule, .initialized yL_rule.cls] : List Cond), w ∈ wAll) w h
    exact ⟨this, wAll_good _ this⟩
  · rcases List.mem_cons.mp h with rfl | q
    · exact ⟨w_1354, wAll_good _ w_1354⟩
    · exact ⟨q, wAll_good _ q⟩
