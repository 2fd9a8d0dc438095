theorem dX10_rule_0 : decode cX10_rule 0 = .ok (.aload_n 0, 1) := by decide +kernel
theorem dX10_rule_1 : decode cX10_rule 1 = .ok (.getfield 19, 3) := by decide +kernel
theorem dX10_rule_4 : decode cX10_rule 4 = .ok (.iload_n 1, 1) := by decide +kernel
theorem dX10_rule_5 : decode cX10_rule 5 = .ok (.invokevirtual 110, 3) := by decide +kernel
theorem dX10_rule_8 : decode cX10_rule 8 = .ok (.astore_n 3, 1) := by decide +kernel
theorem dX10_rule_9 : decode cX10_rule 9 = .ok (.aload_n 3, 1) := by decide +kernel
theorem dX10_rule_10 : decode cX10_rule 10 = .ok (.ifnull 13, 3) := by decide +kernel
theorem dX10_rule_23 : decode cX10_rule 23 = .ok (.new 158, 3) := by decide +kernel
theorem dX10_rule_26 : decode cX10_rule 26 = .ok (.dup, 1) := by decide +kernel
theorem dX10_rule_27 : decode cX10_rule 27 = .ok (.invokespecial 160, 3) := by decide +kernel
theorem dX10_rule_30 : decode cX10_rule 30 = .ok (.athrow, 1) := by decide +kernel
theorem w_1360 : Cond.classLink "QuarterWalks" 158 "java/util/NoSuchElementException" ∈ wAll := wIn 1360 (by decide +kernel) (by decide +kernel)
theorem w_120 : Cond.initialized "java/util/NoSuchElementException" ∈ wAll := wIn 120 (by decide +kernel) (by decide +kernel)

def at0 : List Cond := vx_at0 RX10 160 "java/util/NoSuchElementException" ["java/lang/RuntimeException", "java/lang/Exception"]
theorem at0_tbl : ∀ w ∈ at0.filter goodWord, w ∈ lw_tbl := by decide +kernel
def at0_B : List Cond := [.castable "java/util/NoSuchElementException" "java/util/NoSuchElementException", .declares ⟨"java/lang/RuntimeException", "<init>", "()V"⟩, .declares ⟨"java/lang/Exception", "<init>", "()V"⟩, .declares ⟨"java/lang/Throwable", "<init>", "()V"⟩]
theorem at0_bad : ∀ w ∈ at0.filter (fun w => !goodWord w), w ∈ at0_B := by decide +kernel
theorem at0_ot : ∀ w ∈ Cond.classLink RX10 158 "java/util/NoSuchElementException" :: Cond.initialized "java/util/NoSuchElementException" :: at0, vx_ot w = true := by decide +kernel
theorem at0_all : ∀ w ∈ at0.filter goodWord, w ∈ wAll := fun w h => List.mem_filter.mpr ⟨at0_tbl w h, (List.mem_filter.mp h).2⟩
theorem at0_hold {D : va_G} {G : Nat → Nat} {b0 : Nat} {s : State} {args : Array Value} (hts : ∀ w ∈ wAll, w.before args s = true) (hE0 : hE D G b0 s s.heap) : ∀ w ∈ at0, w.before args s = true :=
  vx_hat (fun w h => hts w (at0_all w h)) at0_bad (vx_c ((hE0.2.2.2.2.2.2.2.2.2.2.2.2.1 ("java/util/NoSuchElementException", "java/util/NoSuchElementException") (by decide)).use rfl) (vx_c ((hE0.2.2.2.2.2.2.2.2.2.2.2.2.2 ⟨"java/lang/RuntimeException", "<init>", "()V"⟩ (by decide)).use rfl) (vx_c ((hE0.2.2.2.2.2.2.2.2.2.2.2.2.2 ⟨"java/lang/Exception", "<init>", "()V"⟩ (by decide)).use rfl) (vx_c ((hE0.2.2.2.2.2.2.2.2.2.2.2.2.2 ⟨"java/lang/Throwable", "<init>", "()V"⟩ (by decide)).use rfl) vx_n))))
/-- behind a throw: the world is as it was -/
abbrev xX (D : va_G) (b0 : Nat) (f : hM) : String → State → State → Prop := vx_X (fun u : hM => f = u) (fun E u t => E = "java/util/NoSuchElementException" ∧ hPost D b0 u t) (hA b0)
set_option maxRecDepth 100000 in
set_option maxHeartbeats 4000000 in
theorem c_X10_rule (l : Launch) (hst : l.stackTraces = false) (D : va_G) (G : Nat → Nat) (b0 : Nat) (f : hM) (X : Nat → Nat) (hX : xw G f X) (p0 p1 : Int32) : vx_Met l yX10_rule (Cond.code yX10_rule cX10_rule 4 (some .int) :: wAll) { frames := 6, cells := 1, slots := 6, locals := 81 } (va_Pc [.ref (X 0), .int p0, .int p1] (hPre D G b0 f)) (va_Qi (fun (_ : Int32) (_ : hM) => False) (hPost D b0) (hA b0)) (xX D b0 f) 1 6 (hA b0) := by
  refine vx_ofW (cc := cX10_rule) (maxL := 4) (ret := some .int) (by decide) rfl ?_
  intro p e s m args below meth c s₁ B hml hnt hv
  obtain ⟨rfl, hP0, hb0, hz, hE0⟩ := hv
  have hts0 := atoms_spec (ws := Cond.code yX10_rule cX10_rule 4 (some .int) :: wAll) B.pre
  have hts : ∀ w ∈ wAll, w.before [Value.ref (X 0), .int p0, .int p1].toArray s = true := fun w hw => hts0 w (List.mem_cons_of_mem _ hw)
  have hown : s.vm.findClass RX10 = some m.cls := findClass_of_methodNamed B.named
  rw [lg_entry_eq]
  have hl := lv_entry ([.ref (X 0), .int p0, .int p1]) (n := 4) (Nat.le_of_ble_eq_true rfl)
  generalize (lg_sl ([.ref (X 0), .int p0, .int p1]) ++ List.replicate (4 - (lg_sl ([.ref (X 0), .int p0, .int p1])).length) Slot.unset).toArray = ls at hl ⊢
  have hl : lv_has ls 4 [(0, .ref (X 0)), (1, .int p0), (2, .int p1)] := hl
  have C : hC p s m [Value.ref (X 0), .int p0, .int p1].toArray meth c cX10_rule 4 RX10 D G b0 := ⟨B.exec, B.bytes, hml, hown, hts, hE0, B.notSynchronized⟩
  have h : hw D b0 s.heap f s.heap [] := ⟨hP0, hb0, va_S.rf, hz⟩
  have hx := B.exec
  have hb := B.bytes
  show W p l e { frames := 6, cells := 1, slots := 6, locals := 81 } s m _ below meth c s.heap [] 0 0 _ _
  obtain ⟨kx0, kx1, kx2, kx3, kx4, kx5, kx6, kx7, kx8, kx9⟩ := hX
  refine lv_aload_n hx hb dX10_rule_0 rfl (lv_at hl 0 rfl) ?_
  refine q_get C h kx0 fl_X10_19 (v := .ref (X 2)) rfl dX10_rule_1 ?_
  refine lv_iload_n hx hb dX10_rule_4 rfl (lv_at hl 1 rfl) ?_
  refine k_q (r_V C h hl (As := [.int p0]) (rest := []) (c_X0_find l D G b0 f X ⟨kx0, kx1, kx2, kx3, kx4, kx5, kx6, kx7, kx8, kx9⟩ p0) kx2 (Cn := RX0) (T := TX0) (N := 6) rfl rfl mk_X0_find w_594 w_595 w_596 w_597 ⟨Nat.le_of_ble_eq_true rfl, Nat.le_of_ble_eq_true rfl⟩ rfl (Nat.le_of_ble_eq_true rfl) ⟨Nat.le_of_ble_eq_true rfl, Nat.le_of_ble_eq_true rfl⟩ rfl dX10_rule_5) h (fun r_3589 f_3590 H locs p_3591 h => ?_)
  obtain ⟨rfl, rfl⟩ := p_3591
  refine lv_astore_nN (lv' := [(3, .null), (0, .ref (X 0)), (1, .int p0), (2, .int p1)]) hx hb dX10_rule_8 rfl hl (by decide) rfl (fun ls hl => ?_)
  refine lv_aload_nN hx hb dX10_rule_9 rfl (lv_at hl 0 rfl) ?_
  refine lv_ifnullN (tgt := 23) hx hb dX10_rule_10 (by decide) ?_
  exact vx_throw0 (names := ["java/lang/RuntimeException", "java/lang/Exception"]) hx hb hst hown (by decide +kernel) (by decide +kernel) (hts _ w_1360) (hts _ w_120) (at0_hold hts hE0) at0_ot hE0.2.2.2.2.2.2.2.2.2.2.1 hE0.2.2.2.2.2.2.2.2.2.2.2.1 h.2.2.1 (hl.1.trans hml.symm) dX10_rule_23 dX10_rule_26 dX10_rule_27 dX10_rule_30 (fun x hx => (hnt x hx).elim) (Nat.le_of_ble_eq_true rfl) (Nat.le_of_ble_eq_true rfl) (Nat.le_of_ble_eq_true rfl) (Nat.le_of_ble_eq_true rfl) B.notSynchronized
    (fun t ht hz1 hk1 => ⟨f, rfl, ⟨rfl, fun a e ha => (h.1 a e ha).kept (hk1 a (h.1.lt ha)), h.2.1⟩, Nat.le_trans h.2.2.1.1 hz1, fun q h1 h2 => (hk1 q (Nat.lt_of_lt_of_le h1 h.2.2.1.1)).trans (h.2.2.1.2.1 q h1 h2)⟩) h.2.2.1.2.2 (Nat.le_of_ble_eq_true rfl) (Nat.le_of_ble_eq_true rfl)

