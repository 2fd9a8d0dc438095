theorem w_540 : Cond.methodLink "java/util/Arrays" 316 ⟨"[I", "clone", "()Ljava/lang/Object;"⟩ ∈ wAll := wI2 205 (by decide +kernel) (by decide +kernel)
theorem w_541 : Cond.sameMethod "[I" "java/lang/Object" "clone" "()Ljava/lang/Object;" ∈ wAll := wI2 206 (by decide +kernel) (by decide +kernel)
theorem w_542 : Cond.native ⟨"java/lang/Object", "clone", "()Ljava/lang/Object;"⟩ ∈ wAll := wI2 207 (by decide +kernel) (by decide +kernel)
theorem w_543 : Cond.instanceMethod ⟨"java/lang/Object", "clone", "()Ljava/lang/Object;"⟩ ∈ wAll := wI2 208 (by decide +kernel) (by decide +kernel)
theorem w_544 : Cond.selects "[I" ⟨"[I", "clone", "()Ljava/lang/Object;"⟩ ⟨"java/lang/Object", "clone", "()Ljava/lang/Object;"⟩ ∈ wAll := wI2 209 (by decide +kernel) (by decide +kernel)
theorem dJ7_copyOf_59c91_0 : decode cJ7_copyOf_59c91 0 = .ok (.iload_n 1, 1) := by decide +kernel
theorem dJ7_copyOf_59c91_1 : decode cJ7_copyOf_59c91 1 = .ok (.aload_n 0, 1) := by decide +kernel
theorem dJ7_copyOf_59c91_2 : decode cJ7_copyOf_59c91 2 = .ok (.arraylength, 1) := by decide +kernel
theorem dJ7_copyOf_59c91_3 : decode cJ7_copyOf_59c91 3 = .ok (.if_icmp .ne 11, 3) := by decide +kernel
theorem dJ7_copyOf_59c91_6 : decode cJ7_copyOf_59c91 6 = .ok (.aload_n 0, 1) := by decide +kernel
theorem dJ7_copyOf_59c91_7 : decode cJ7_copyOf_59c91 7 = .ok (.invokevirtual 316, 3) := by decide +kernel
theorem w_546 : Cond.classLink "java/util/Arrays" 317 "[I" ∈ wAll := wI2 211 (by decide +kernel) (by decide +kernel)
theorem dJ7_copyOf_59c91_10 : decode cJ7_copyOf_59c91 10 = .ok (.checkcast 317, 3) := by decide +kernel
theorem dJ7_copyOf_59c91_13 : decode cJ7_copyOf_59c91 13 = .ok (.areturn, 1) := by decide +kernel
theorem dX6_init_0 : decode cX6_init 0 = .ok (.aload_n 0, 1) := by decide +kernel
theorem w_536 : Cond.methodLink "QuarterWalks$StepSet" 3 objectInit ∈ wAll := wI2 201 (by decide +kernel) (by decide +kernel)
theorem w_130 : Cond.instanceMethod objectInit ∈ wAll := wI1 35 (by decide +kernel) (by decide +kernel)
theorem w_131 : Cond.code objectInit ⟨#[0xb1]⟩ 1 none ∈ wAll := wIn 131 (by decide +kernel) (by decide +kernel)
theorem dX6_init_1 : decode cX6_init 1 = .ok (.invokespecial 3, 3) := by decide +kernel
theorem dX6_init_4 : decode cX6_init 4 = .ok (.aload_n 0, 1) := by decide +kernel
theorem dX6_init_5 : decode cX6_init 5 = .ok (.aload_n 1, 1) := by decide +kernel
theorem dX6_init_6 : decode cX6_init 6 = .ok (.bipush 8, 2) := by decide +kernel
theorem mk_J7_copyOf_59c91 : mk yJ7_copyOf_59c91 2 := ⟨by decide +kernel, w_111⟩
theorem w_537 : Cond.methodLink "QuarterWalks$StepSet" 9 yJ7_copyOf_59c91 ∈ wAll := wI2 202 (by decide +kernel) (by decide +kernel)
theorem w_538 : Cond.static yJ7_copyOf_59c91 ∈ wAll := wI2 203 (by decide +kernel) (by decide +kernel)
theorem w_539 : Cond.code yJ7_copyOf_59c91 cJ7_copyOf_59c91 3 (some (.array .int)) ∈ wAll := wI2 204 (by decide +kernel) (by decide +kernel)
theorem dX6_init_8 : decode cX6_init 8 = .ok (.invokestatic 9, 3) := by decide +kernel
theorem flw_X6_15 : flw RX6 15 7 0 (.array (.int)) := ⟨RX6, TX6, 4, tyX6, rfl, inA_X6, by decide, w_553, tyX6_ok, nmX6, by decide +kernel, Or.inr ⟨rfl, rfl⟩⟩
theorem flw_X6_21 : flw RX6 21 7 1 (.int) := ⟨RX6, TX6, 4, tyX6, rfl, inA_X6, by decide, w_558, tyX6_ok, nmX6, by decide +kernel, Or.inr ⟨rfl, rfl⟩⟩
theorem flw_X6_25 : flw RX6 25 7 2 (.int) := ⟨RX6, TX6, 4, tyX6, rfl, inA_X6, by decide, w_562, tyX6_ok, nmX6, by decide +kernel, Or.inr ⟨rfl, rfl⟩⟩
theorem dX6_init_11 : decode cX6_init 11 = .ok (.putfield 15, 3) := by decide +kernel
theorem dX6_init_14 : decode cX6_init 14 = .ok (.aload_n 0, 1) := by decide +kernel
theorem dX6_init_15 : decode cX6_init 15 = .ok (.iload_n 2, 1) := by decide +kernel
theorem dX6_init_16 : decode cX6_init 16 = .ok (.putfield 21, 3) := by decide +kernel
theorem dX6_init_19 : decode cX6_init 19 = .ok (.aload_n 0, 1) := by decide +kernel
theorem dX6_init_20 : decode cX6_init 20 = .ok (.iload_n 3, 1) := by decide +kernel
theorem dX6_init_21 : decode cX6_init 21 = .ok (.putfield 25, 3) := by decide +kernel
theorem dX6_init_24 : decode cX6_init 24 = .ok (.return_, 1) := by decide +kernel
/-! ===== sets made ===== -/
def SO (G : Nat → Nat) (τ : Nat → Nat) (f : hM) (q : Nat) (v : Nat → Int32) : Prop := τ q = 1 ∧ ∃ (wq : Nat) (w : Nat → Int32), τ wq = 2 ∧ atp f q (fd 0 (.ref wq)) ∧ atp f wq (eqc (.inl (G 1, 8, .inl w))) ∧ (∀ k, k < 8 → w k = v k) ∧ atp f q (fd 1 (.int (v 8))) ∧ atp f q (fd 2 (.int (v 9)))
theorem nfr {A : List Nat} {f0 g : hM} {q0 : Nat} (h : FX A f0 g) (n : g q0 = none) : ∀ q, q ∉ A → f0 q ≠ none → q ≠ q0 := fun q hq h0 z => by
  have e := h q hq h0
  rw [z, n] at e; rw [z] at h0; exact h0 e.symm
theorem FX.upn {A : List Nat} {f g g1 : hM} {a : Nat} (h : FX A f g) (hn : ∀ q, q ≠ a → g1 q = g q) (nf : ∀ q, q ∉ A → f q ≠ none → q ≠ a) : FX A f g1 := fun q hq h0 => (hn q (nf q hq h0)).trans (h q hq h0)
theorem mkset {G : Nat → Nat} {τ : Nat → Nat} {f0 g f2 : hM} {S : List Nat} (t : TI G 9 τ g) (o : Fr S τ f0 g) (h0 : 0 ∈ S) {q0 q1 : Nat} {raw : va_E} {r : Nat → Int32} {x y : Int32} (tz : τ q0 = 0) (hraw : g q0 = some raw) (n1 : g q1 = none) (e2 : f2 = hu (hu g q1 (.inl (G 1, 8, .inl r))) q0 (.inr (7, [.ref q1, .int x, .int y, .null]))) (hr : ∀ j, iv (r j) 0 9) (hx : iv x 0 9) (hy : iv y 0 9) :
    ∃ τ1, Ex τ τ1 ∧ TI G 9 τ1 f2 ∧ Fr S τ f0 f2 ∧ τ1 q0 = 1 ∧ τ1 q1 = 2 ∧ atp f2 q0 (fd 0 (.ref q1)) ∧ atp f2 q1 (eqc (.inl (G 1, 8, .inl r))) ∧ atp f2 q0 (fd 1 (.int x)) ∧ atp f2 q0 (fd 2 (.int y)) ∧ (∀ q, q ≠ q0 → g q ≠ none → f2 q = g q) ∧ atp f2 q0 (fd 3 (va_rf none)) := by
  subst e2
  have hne : q0 ≠ q1 := fun z => by rw [z, n1] at hraw; cases hraw
  have t1 := TI.new (tg := 2) (e := .inl (G 1, 8, .inl r)) t n1 (fw_2 _ ⟨r, rfl, hr⟩)
  have x1 : Ex τ (tu τ q1 2) := TI.newEx t n1
  have z1 : tu τ q1 2 q0 = 0 := (if_neg hne).trans tz
  have zq : tu τ q1 2 q1 = 2 := tu_self _ _ _
  have hobj : wf G 9 (tu τ q1 2) 1 (.inr (7, [.ref q1, .int x, .int y, .null])) := fw_1 _ ⟨_, rfl, rfl, fun k T hk => by
    match k, hk with
    | 0, hk => cases hk; exact ⟨_, rfl, q1, rfl, zq⟩
    | 1, hk => cases hk; exact ⟨_, rfl, x, rfl, hx⟩
    | 2, hk => cases hk; exact ⟨_, rfl, y, rfl, hy⟩
    | 3, hk => cases hk; exact ⟨_, rfl, none, rfl, fun q hq => by cases hq⟩
    | k + 4, hk => simp at hk⟩
  have t2 := TI.raw (e := .inr (7, [.ref q1, .int x, .int y, .null])) t1 z1
  have t3 := TI.tag (tg := 1) t2 z1 (hu_self _ _ _) hobj
  have x2 : Ex (tu τ q1 2) (tu (tu τ q1 2) q0 1) := tuEx z1
  have o1 := Fr.new (e := .inl (G 1, 8, .inl r)) o n1 (t.zero n1) h0
  have o2 := Fr.raw (e := .inr (7, [.ref q1, .int x, .int y, .null])) o1 tz h0
  refine ⟨_, x1.tr x2, t3, o2, tu_self _ _ _, x2.at zq (by decide), ⟨_, hu_self _ _ _, _, _, rfl, rfl⟩, ⟨_, hu_at (hu_self _ _ _) hne.symm, rfl⟩, ⟨_, hu_self _ _ _, _, _, rfl, rfl⟩, ⟨_, hu_self _ _ _, _, _, rfl, rfl⟩, fun q hq hn => ?_, ⟨_, hu_self _ _ _, _, _, rfl, rfl⟩⟩
  rw [hu_ne hq, hu_ne (fun z => hn (by rw [z]; exact n1))]
abbrev rm_copyOf : Room := { frames := 1, cells := 1, slots := 8, locals := 14 }
set_option maxRecDepth 100000 in
theorem c_copyOf (l : Launch) (D : va_G) (G : Nat → Nat) (b0 : Nat) (f : hM) (a : Nat) (r : Nat → Int32) (hf : f a = some (.inl (G 1, 8, .inl r))) : mQ l yJ7_copyOf_59c91 cJ7_copyOf_59c91 3 (.array .int) rm_copyOf D G b0 f [.ref a, .int 8] (fun x f1 => ∃ q, x = some q ∧ f q = none ∧ f1 = hu f q (.inl (G 1, 8, .inl r))) := by
  refine met2 (own := RJ7) (by decide) rfl (Nat.le_of_ble_eq_true rfl) ?_
  intro p e s m args below meth c ls Q hQ C hr hini hl h
  have hl : lv_has ls 3 [(0, .ref a), (1, .int 8)] := hl
  obtain ⟨hx, hb, hml, hown, hts, hE0, hlk⟩ := id C
  refine lv_iload_n hx hb dJ7_copyOf_59c91_0 rfl (lv_at hl 1 rfl) ?_
  refine lv_aload_n hx hb dJ7_copyOf_59c91_1 rfl (lv_at hl 0 rfl) ?_
  refine q_alen C h 1 (ty := .int) rfl hf (v := 8) rfl dJ7_copyOf_59c91_2 ?_
  refine lv_icmp_ne (tgt := 14) hx hb dJ7_copyOf_59c91_3 (by decide) (fun c1 => absurd c1 (by decide)) (fun c1 => ?_)
  refine lv_aload_n hx hb dJ7_copyOf_59c91_6 rfl (lv_at hl 0 rfl) ?_
  refine q_clone C h hl hf w_540 w_541 w_542 w_543 w_544 (Nat.le_of_ble_eq_true rfl) (Nat.le_of_ble_eq_true rfl) (Nat.le_of_ble_eq_true rfl) (Nat.le_of_ble_eq_true rfl) dJ7_copyOf_59c91_7 (fun q H nq h => ?_)
  refine q_castI C h (hu_self _ _ _) w_546 dJ7_copyOf_59c91_10 ?_
  exact u_aret C h hr (Or.inr ⟨_, rfl⟩) hQ (v := some q) ⟨q, rfl, nq, rfl⟩ (Nat.le_of_ble_eq_true rfl) (Nat.le_of_ble_eq_true rfl) rfl dJ7_copyOf_59c91_13
abbrev rm_StepSet : Room := { frames := 2, cells := 1, slots := 8, locals := 40 }
set_option maxRecDepth 100000 in
theorem c_StepSet (l : Launch) (D : va_G) (G : Nat → Nat) (b0 : Nat) (f : hM) (a w : Nat) (r : Nat → Int32) (x y : Int32) (ha : f a = some (.inr (7, [.null, .int 0, .int 0, .null]))) (hw0 : f w = some (.inl (G 1, 8, .inl r))) : mV l yX6_init cX6_init 4 rm_StepSet D G b0 f [.ref a, .ref w, .int x, .int y] (fun f1 => ∃ q, f q = none ∧ f1 = hu (hu f q (.inl (G 1, 8, .inl r))) a (.inr (7, [.ref q, .int x, .int y, .null]))) := by
  refine met2 (own := RX6) (by decide) rfl (Nat.le_of_ble_eq_true rfl) ?_
  intro p e s m args below meth c ls Q hQ C hr hini hl h
  have hl : lv_has ls 4 [(0, .ref a), (1, .ref w), (2, .int x), (3, .int y)] := hl
  obtain ⟨hx, hb, hml, hown, hts, hE0, hlk⟩ := id C
  refine lv_aload_n hx hb dX6_init_0 rfl (lv_at hl 0 rfl) ?_
  refine W.objInit hx hb hown (hts _ w_536) (hts _ w_130) (hts _ w_131) rfl (hl.1.trans hml.symm) rfl dX6_init_1 (Nat.le_of_ble_eq_true rfl) (Nat.le_of_ble_eq_true rfl) ?_
  show W _ _ _ _ _ _ _ _ _ _ _ _ _ _ _ (F0 m 4 ls [])
  refine lv_aload_n hx hb dX6_init_4 rfl (lv_at hl 0 rfl) ?_
  refine lv_aload_n hx hb dX6_init_5 rfl (lv_at hl 1 rfl) ?_
  refine lv_bipush (v := 8) hx hb dX6_init_6 (by decide) ?_
  refine k_q (r_S C h hl (As := [.ref w, .int 8]) (rest := [.ref a]) (c_copyOf l D G b0 f w r hw0) mk_J7_copyOf_59c91 w_537 w_538 w_539 ⟨(Nat.le_of_ble_eq_true rfl), (Nat.le_of_ble_eq_true rfl)⟩ rfl (Nat.le_of_ble_eq_true rfl) ⟨(Nat.le_of_ble_eq_true rfl), (Nat.le_of_ble_eq_true rfl)⟩ rfl dX6_init_8) h (fun o f1 H locs hp h => ?_)
  obtain ⟨q, rfl, nq, rfl⟩ := hp
  have hne : a ≠ q := fun z => by rw [z, nq] at ha; cases ha
  have ka : hu f q (.inl (G 1, 8, .inl r)) a = some (.inr (7, [.null, .int 0, .int 0, .null])) := hu_at ha hne
  refine q_put C h ka flw_X6_15 (Or.inl hini) (v := .ref q) rfl rfl (Nat.le_of_ble_eq_true rfl) dX6_init_11 (fun H locs h => ?_)
  rw [show ([.null, .int 0, .int 0, .null] : List Value).set 0 (.ref q) = [.ref q, .int 0, .int 0, .null] from rfl] at h
  refine lv_aload_n hx hb dX6_init_14 rfl (lv_at hl 0 rfl) ?_
  refine lv_iload_n hx hb dX6_init_15 rfl (lv_at hl 2 rfl) ?_
  refine q_put C h (hu_self _ _ _) flw_X6_21 (Or.inl hini) (v := .int x) rfl rfl (Nat.le_of_ble_eq_true rfl) dX6_init_16 (fun H locs h => ?_)
  rw [hu_hu, show ([.ref q, .int 0, .int 0, .null] : List Value).set 1 (.int x) = [.ref q, .int x, .int 0, .null] from rfl] at h
  refine lv_aload_n hx hb dX6_init_19 rfl (lv_at hl 0 rfl) ?_
  refine lv_iload_n hx hb dX6_init_20 rfl (lv_at hl 3 rfl) ?_
  refine q_put C h (hu_self _ _ _) flw_X6_25 (Or.inl hini) (v := .int y) rfl rfl (Nat.le_of_ble_eq_true rfl) dX6_init_21 (fun H locs h => ?_)
  rw [hu_hu, show ([.ref q, .int x, .int 0, .null] : List Value).set 2 (.int y) = [.ref q, .int x, .int y, .null] from rfl] at h
  exact u_vret C h hr hQ ⟨q, nq, rfl⟩ (Nat.le_of_ble_eq_true rfl) (Nat.le_of_ble_eq_true rfl) dX6_init_24
