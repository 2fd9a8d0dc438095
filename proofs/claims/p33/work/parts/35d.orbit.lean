
/-! ===== orbits ===== -/
def prs (W : Int → Int) (x y : Int) : Nat → Int × Int
  | 0 => (x, y)
  | k + 1 => if k % 2 = 0 then (tX W (prs W x y k).1 (prs W x y k).2, (prs W x y k).2) else ((prs W x y k).1, tY W (prs W x y k).1 (prs W x y k).2)
def PX (W : Int → Int) (x y i : Int) : Int := (prs W x y i.toNat).1
def PY (W : Int → Int) (x y i : Int) : Int := (prs W x y i.toNat).2
theorem px_e {W : Int → Int} {x y i j : Int} (h : i % 2 = 0) (h0 : 0 ≤ i) (hj : j = i + 1) : PX W x y j = tX W (PX W x y i) (PY W x y i) ∧ PY W x y j = PY W x y i := by
  unfold PX PY
  rw [show j.toNat = i.toNat + 1 by omega, prs, if_pos (by omega)]
  exact ⟨rfl, rfl⟩
theorem px_o {W : Int → Int} {x y i j : Int} (h : i % 2 = 1) (h0 : 0 ≤ i) (hj : j = i + 1) : PX W x y j = PX W x y i ∧ PY W x y j = tY W (PX W x y i) (PY W x y i) := by
  unfold PX PY
  rw [show j.toNat = i.toNat + 1 by omega, prs, if_neg (by omega)]
  exact ⟨rfl, rfl⟩
/-- what is found from an even place on -/
def ob (W : Int → Int) (x y : Int) : Nat → Int → Int
  | 0, _ => -1
  | n + 1, k => if PX W x y (k + 1) = -1 then -1 else if PY W x y (k + 2) = -1 then -1 else if PX W x y (k + 2) = x ∧ PY W x y (k + 2) = y then k + 2 else ob W x y n (k + 2)
def OG (W : Int → Int) (x y : Int) : Int := ob W x y 20 0
def OS (W : Int → Int) (x y i : Int) : Prop := i % 2 = 0 ∧ 0 ≤ i ∧ i ≤ 40 ∧ ob W x y ((40 - i) / 2).toNat i = OG W x y
def OH (W : Int → Int) (x y i : Int) : Prop := i % 2 = 1 ∧ 0 ≤ i ∧ i ≤ 39 ∧ (if PY W x y (i + 1) = -1 then -1 else if PX W x y (i + 1) = x ∧ PY W x y (i + 1) = y then i + 1 else ob W x y ((39 - i) / 2).toNat (i + 1)) = OG W x y
theorem os_0 {W : Int → Int} {x y : Int} : OS W x y 0 := ⟨rfl, by omega, by omega, rfl⟩
theorem os_end {W : Int → Int} {x y i : Int} (h : OS W x y i) (hi : 40 ≤ i) : OG W x y = -1 := by
  obtain ⟨h1, h2, h3, h4⟩ := h
  rw [← h4, show ((40 - i) / 2).toNat = 0 by omega]
  rfl
theorem os_x {W : Int → Int} {x y i j cx cy nx : Int} (h : OS W x y i) (hi : i < 40) (hj : j = i + 1) (hx : cx = PX W x y i) (hy : cy = PY W x y i) (e : nx = tX W cx cy) : nx = PX W x y j ∧ cy = PY W x y j ∧ (nx = -1 → OG W x y = -1) ∧ (nx ≠ -1 → OH W x y j) := by
  obtain ⟨h1, h2, h3, h4⟩ := h
  obtain ⟨e1, e2⟩ := px_e (W := W) (x := x) (y := y) h1 h2 hj
  have a1 : nx = PX W x y j := by rw [e1, e, hx, hy]
  have q : ob W x y ((40 - i) / 2).toNat i = if PX W x y (i + 1) = -1 then -1 else if PY W x y (i + 2) = -1 then -1 else if PX W x y (i + 2) = x ∧ PY W x y (i + 2) = y then i + 2 else ob W x y ((38 - i) / 2).toNat (i + 2) := by
    rw [show ((40 - i) / 2).toNat = ((38 - i) / 2).toNat + 1 by omega, ob]
  subst hj
  refine ⟨a1, by rw [e2, hy], fun z => ?_, fun z => ⟨by omega, by omega, by omega, ?_⟩⟩
  · rw [← h4, q, if_pos (show PX W x y (i + 1) = -1 by rw [← a1]; exact z)]
  · rw [← h4, q, if_neg (show ¬ PX W x y (i + 1) = -1 by rw [← a1]; exact z), show i + 1 + 1 = i + 2 by omega, show (39 - (i + 1)) / 2 = (38 - i) / 2 by omega]
theorem oh_x {W : Int → Int} {x y i j cx cy ny : Int} (h : OH W x y i) (hj : j = i + 1) (hx : cx = PX W x y i) (hy : cy = PY W x y i) (e : ny = tY W cx cy) : cx = PX W x y j ∧ ny = PY W x y j ∧ (ny = -1 → OG W x y = -1) ∧ (ny ≠ -1 → cx = x → ny = y → OG W x y = j) ∧ (ny ≠ -1 → ¬ (cx = x ∧ ny = y) → OS W x y j) := by
  obtain ⟨h1, h2, h3, h4⟩ := h
  obtain ⟨e1, e2⟩ := px_o (W := W) (x := x) (y := y) h1 h2 hj
  have a1 : cx = PX W x y j := by rw [e1, hx]
  have a2 : ny = PY W x y j := by rw [e2, e, hx, hy]
  subst hj
  rw [← a1, ← a2] at h4
  refine ⟨a1, a2, fun z => ?_, fun z z1 z2 => ?_, fun z z1 => ⟨by omega, by omega, by omega, ?_⟩⟩
  · rw [← h4, if_pos z]
  · rw [← h4, if_neg z, if_pos ⟨z1, z2⟩]
  · rw [← h4, if_neg z, if_neg z1, show 40 - (i + 1) = 39 - i by omega]
/-- the rows hold the pairs -/
def RC (W : Int → Int) (x y n : Int) (r1 r2 : Nat → Int32) : Prop := ∀ j : Nat, (j : Int) < n → ((r1 j).toInt = PX W x y j ∧ 0 ≤ PX W x y j ∧ PX W x y j ≤ 1000002) ∧ ((r2 j).toInt = PY W x y j ∧ 0 ≤ PY W x y j ∧ PY W x y j ≤ 1000002)
theorem rc_0 {W : Int → Int} {x y : Int} {r1 r2 : Nat → Int32} : RC W x y 0 r1 r2 := fun j hj => absurd hj (by omega)
theorem rc_le {W : Int → Int} {x y n m : Int} {r1 r2 : Nat → Int32} (h : RC W x y n r1 r2) (hm : m ≤ n) : RC W x y m r1 r2 := fun j hj => h j (by omega)
theorem rc_at {W : Int → Int} {x y n i : Int} {r1 r2 : Nat → Int32} (h : RC W x y n r1 r2) {j : Nat} (hj : (j : Int) = i) (hn : i < n) : ((r1 j).toInt = PX W x y i ∧ 0 ≤ PX W x y i ∧ PX W x y i ≤ 1000002) ∧ ((r2 j).toInt = PY W x y i ∧ 0 ≤ PY W x y i ∧ PY W x y i ≤ 1000002) := by
  subst hj
  exact h j hn
theorem rc_s {W : Int → Int} {x y n : Int} {r1 r2 r3 r4 : Nat → Int32} {i j : Nat} {a b : Int32} (h : RC W x y n r1 r2) (e1 : r3 = upd r1 i a) (e2 : r4 = upd r2 j b) (hi : (i : Int) = n) (hj : (j : Int) = n) (ha : a.toInt = PX W x y n ∧ 0 ≤ a.toInt ∧ a.toInt ≤ 1000002) (hb : b.toInt = PY W x y n ∧ 0 ≤ b.toInt ∧ b.toInt ≤ 1000002) : RC W x y (n + 1) r3 r4 := fun k hk => by
  rw [e1, e2]
  by_cases q : (k : Int) = n
  · rw [upd_at (show k = i by omega), upd_at (show k = j by omega), q]
    exact ⟨⟨ha.1, by omega, by omega⟩, ⟨hb.1, by omega, by omega⟩⟩
  · rw [upd_off (show ¬ k = i by omega), upd_off (show ¬ k = j by omega)]
    exact h k (by omega)
/-- the greatest of three -/
def gr3 (a b c : Int) : Int := if a = -1 ∨ b = -1 ∨ c = -1 then -1 else max a (max b c)
def GRP (W : Int → Int) : Int := gr3 (OG W 2 3) (OG W 5 7) (OG W 11 13)
/-- alternating sums -/
def alt (W : Int → Int) (x y : Int) : Nat → Int
  | 0 => 0
  | n + 1 => alt W x y n + (if (n : Int) % 2 = 0 then PX W x y n * PY W x y n % 1000003 else -(PX W x y n * PY W x y n % 1000003))
def alm (W : Int → Int) (x y : Int) : Nat → Int
  | 0 => 0
  | n + 1 => alm W x y n + (if (n : Int) % 2 = 0 then PX W x y n * PY W x y n % 1000003 else 1000003 - PX W x y n * PY W x y n % 1000003)
theorem alt_s {W : Int → Int} {x y i z : Int} (h : 0 ≤ i) (hz : z = i + 1) : alt W x y z.toNat = alt W x y i.toNat + (if i % 2 = 0 then PX W x y i * PY W x y i % 1000003 else -(PX W x y i * PY W x y i % 1000003)) := by
  rw [show z.toNat = i.toNat + 1 by omega, alt, show ((i.toNat : Nat) : Int) = i by omega]
theorem alm_s {W : Int → Int} {x y i z : Int} (h : 0 ≤ i) (hz : z = i + 1) : alm W x y z.toNat = alm W x y i.toNat + (if i % 2 = 0 then PX W x y i * PY W x y i % 1000003 else 1000003 - PX W x y i * PY W x y i % 1000003) := by
  rw [show z.toNat = i.toNat + 1 by omega, alm, show ((i.toNat : Nat) : Int) = i by omega]
theorem alm_alt {W : Int → Int} {x y : Int} : ∀ n : Nat, alm W x y n % 1000003 = alt W x y n % 1000003
  | 0 => rfl
  | n + 1 => by
    have h := alm_alt (W := W) (x := x) (y := y) n
    rw [alm, alt]
    split <;> omega
/-! the same of the same weights -/
theorem prs_c {W V : Int → Int} (h : ∀ k : Int, 0 ≤ k → k < 8 → W k = V k) (x y : Int) : ∀ n : Nat, prs W x y n = prs V x y n
  | 0 => rfl
  | n + 1 => by rw [prs, prs, prs_c h x y n, tX_c h, tY_c h]
theorem px_c {W V : Int → Int} (h : ∀ k : Int, 0 ≤ k → k < 8 → W k = V k) (x y i : Int) : PX W x y i = PX V x y i ∧ PY W x y i = PY V x y i := by
  unfold PX PY
  rw [prs_c h]
  exact ⟨rfl, rfl⟩
theorem ob_c {W V : Int → Int} (h : ∀ k : Int, 0 ≤ k → k < 8 → W k = V k) (x y : Int) : ∀ (n : Nat) (k : Int), ob W x y n k = ob V x y n k
  | 0, _ => rfl
  | n + 1, k => by rw [ob, ob, (px_c h x y _).1, (px_c h x y _).2, (px_c h x y _).1, ob_c h x y n]
theorem OG_c {W V : Int → Int} (h : ∀ k : Int, 0 ≤ k → k < 8 → W k = V k) (x y : Int) : OG W x y = OG V x y := ob_c h x y 20 0
theorem GRP_c {W V : Int → Int} (h : ∀ k : Int, 0 ≤ k → k < 8 → W k = V k) : GRP W = GRP V := by
  unfold GRP
  rw [OG_c h, OG_c h, OG_c h]
theorem alt_c {W V : Int → Int} (h : ∀ k : Int, 0 ≤ k → k < 8 → W k = V k) (x y : Int) : ∀ n : Nat, alt W x y n = alt V x y n
  | 0 => rfl
  | n + 1 => by rw [alt, alt, alt_c h x y n, (px_c h x y _).1, (px_c h x y _).2]
abbrev rm_s_X8_followX : Room := { frames := 3, cells := 0, slots := 0, locals := 71 }
set_option maxRecDepth 100000 in
set_option maxHeartbeats 4000000 in
theorem s_X8_followX (l : Launch) (D : va_G) (G : Nat → Nat) (b0 : Nat) (τ : Nat → Nat) (f : hM) (t : TI G 9 τ f) (u0 : Nat) (hu0 : τ u0 = 35) (u1 : Nat) (hu1 : τ u1 = 1) (u2 : Int32) (hu2 : iv u2 0 1000002) (u3 : Int32) (hu3 : iv u3 0 1000002) (wq : Nat) (hwq : τ wq = 2) (k_u1_0 : atp f u1 (fd 0 (.ref wq))) (xq : Nat) (hxq : τ xq = 36) (k_u0_0 : atp f u0 (fd 0 (.ref xq))) (yq : Nat) (hyq : τ yq = 80) (k_u0_1 : atp f u0 (fd 1 (.ref yq))) (ww : Nat → Int32) (hRwq : atp f wq (eqc (.inl (G 1, 8, .inl ww)))) (rx : Nat → Int32) (hRxq : atp f xq (eqc (.inl (G 1, 40, .inl rx)))) (ry : Nat → Int32) (hRyq : atp f yq (eqc (.inl (G 1, 40, .inl ry)))) : mI l yX8_follow cX8_follow 7 (.int) rm_s_X8_followX D G b0 f [.ref u0, .ref u1, .int u2, .int u3] (fun r f1 => iv r (-1) 40 ∧ TI G 9 τ f1 ∧ Fr [36, 80] τ f f1 ∧ (r.toInt = OG (fun k : Int => (ww k.toNat).toInt) u2.toInt u3.toInt) ∧ (∃ (rx1 : Nat → Int32) (ry1 : Nat → Int32), atp f1 xq (eqc (.inl (G 1, 40, .inl rx1))) ∧ atp f1 yq (eqc (.inl (G 1, 40, .inl ry1))) ∧ (r.toInt ≠ -1 → RC (fun k : Int => (ww k.toNat).toInt) u2.toInt u3.toInt r.toInt rx1 ry1))) := by
  refine met2 (own := RX8) (by decide) rfl (Nat.le_of_ble_eq_true rfl) ?_
  intro p e s m args below meth c ls Q hQ C hr hini hl h
  have hl : lv_has ls 7 [(0, .ref u0), (1, .ref u1), (2, .int u2), (3, .int u3)] := hl
  obtain ⟨hx, hb, hml, hown, hts, hE0, hlk⟩ := id C
  have o := Fr.rf [36, 80] τ f
  have L9 : ∀ (n9 : Nat) (ls : Array Slot) (f_9 : hM) (H : Heap) (locs : List Loc) (v9_4 : Int32) (v9_5 : Int32) (v9_6 : Int32) (g9_xq_R : Nat → Int32) (g9_yq_R : Nat → Int32), 40 - v9_6.toInt < (n9 : Int) → lv_has ls 7 [(0, .ref u0), (1, .ref u1), (2, .int u2), (3, .int u3), (4, .int v9_4), (5, .int v9_5), (6, .int v9_6)] → hw D b0 s.heap f_9 H locs → TI G 9 τ f_9 → Fr [36, 80] τ f f_9 → iv v9_4 0 1000002 → iv v9_5 0 1000002 → iv v9_6 0 40 → atp f_9 u1 (fd 0 (.ref wq)) → atp f_9 u0 (fd 0 (.ref xq)) → atp f_9 u0 (fd 1 (.ref yq)) → atp f_9 wq (eqc (.inl (G 1, 8, .inl ww))) → atp f_9 xq (eqc (.inl (G 1, 40, .inl g9_xq_R))) → atp f_9 yq (eqc (.inl (G 1, 40, .inl g9_yq_R))) → v9_6.toInt % 2 = 0 → (OS (fun k : Int => (ww k.toNat).toInt) u2.toInt u3.toInt v9_6.toInt) → (v9_4.toInt = PX (fun k : Int => (ww k.toNat).toInt) u2.toInt u3.toInt v9_6.toInt) → (v9_5.toInt = PY (fun k : Int => (ww k.toNat).toInt) u2.toInt u3.toInt v9_6.toInt) → (RC (fun k : Int => (ww k.toNat).toInt) u2.toInt u3.toInt v9_6.toInt g9_xq_R g9_yq_R) → W p l e rm_s_X8_followX s m args below meth c H locs 0 0 Q (F0 m 9 ls []) := by
    intro n9
    induction n9 with
    | zero => intro ls f_9 H locs v9_4 v9_5 v9_6 g9_xq_R g9_yq_R hm9 hl h t_9 o_9 iv9_4 iv9_5 iv9_6 k9_u1_0 k9_u0_0 k9_u0_1 k9_wq_R k9_xq_R k9_yq_R hv9_0 hv9_1 hv9_2 hv9_3 hv9_4; exact absurd hm9 (by omega)
    | succ n9 ih9 =>
      intro ls f_9 H locs v9_4 v9_5 v9_6 g9_xq_R g9_yq_R hm9 hl h t_9 o_9 iv9_4 iv9_5 iv9_6 k9_u1_0 k9_u0_0 k9_u0_1 k9_wq_R k9_xq_R k9_yq_R hv9_0 hv9_1 hv9_2 hv9_3 hv9_4
      refine lv_iload hx hb dX8_follow_9 (lv_at hl 6 rfl) ?_
      refine lv_bipush (v := 40) hx hb dX8_follow_11 (by decide) ?_
      refine lv_icmp_ge (tgt := 115) hx hb dX8_follow_13 (by decide) (fun c1 => ?_) (fun c1 => ?_)
      · have c2 : 40 ≤ v9_6.toInt := Int32.le_iff_toInt_le.mp c1
        have i3 : iv v9_6 40 40 := iv_Er c2 (iv_k (x := 40) (k := 40) rfl) iv9_6 (by decide)
        refine lv_iconst (v := -1) hx hb dX8_follow_115 (by decide) ?_
        exact u_iret C h hr hQ (⟨⟨by decide, by decide⟩, t_9, o_9, (os_end hv9_1 (by omega)).symm, ⟨g9_xq_R, g9_yq_R, k9_xq_R, k9_yq_R, (fun z_ => absurd rfl z_)⟩⟩) (Nat.le_of_ble_eq_true rfl) (Nat.le_of_ble_eq_true rfl) dX8_follow_116
      · have c4 : v9_6.toInt < 40 := Int32.lt_iff_toInt_lt.mp (iv_nle c1)
        have i5 : iv v9_6 0 39 := iv_Ll c4 iv9_6 (iv_k (x := 40) (k := 40) rfl) (by decide)
        refine lv_aload_n hx hb dX8_follow_16 rfl (lv_at hl 0 rfl) ?_
        refine t_getfd C h t_9 hu0 (by decide) wf_35 (v := .ref xq) k9_u0_0 fl_X8_11 dX8_follow_17 ?_
        refine lv_iload hx hb dX8_follow_20 (lv_at hl 6 rfl) ?_
        refine lv_iload hx hb dX8_follow_22 (lv_at hl 4 rfl) ?_
        refine e_iast C h t_9 o_9 hxq (by decide) (by decide) wf_36 fw_36 k9_xq_R (iv_in i5 (by decide)) (iv_w iv9_4 (by decide)) dX8_follow_24 (fun R8 f6 erR8 H locs h tf6 of6 hq hn_ k7 => ?_)
        have k9 := atp.tg k9_u1_0 hq hu1 (by decide)
        have k10 := atp.tg k9_u0_0 hq hu0 (by decide)
        have k11 := atp.tg k9_u0_1 hq hu0 (by decide)
        have k12 := atp.tg k9_wq_R hq hwq (by decide)
        have k14 := atp.tg k9_yq_R hq hyq (by decide)
        refine lv_aload_n hx hb dX8_follow_25 rfl (lv_at hl 0 rfl) ?_
        refine t_getfd C h tf6 hu0 (by decide) wf_35 (v := .ref yq) k11 fl_X8_15 dX8_follow_26 ?_
        refine lv_iload hx hb dX8_follow_29 (lv_at hl 6 rfl) ?_
        refine lv_iload hx hb dX8_follow_31 (lv_at hl 5 rfl) ?_
        refine e_iast C h tf6 of6 hyq (by decide) (by decide) wf_80 fw_80 k14 (iv_in i5 (by decide)) (iv_w iv9_5 (by decide)) dX8_follow_33 (fun R17 f15 erR17 H locs h tf15 of15 hq hn_ k16 => ?_)
        have k18 := atp.tg k9 hq hu1 (by decide)
        have k19 := atp.tg k10 hq hu0 (by decide)
        have k20 := atp.tg k11 hq hu0 (by decide)
        have k21 := atp.tg k12 hq hwq (by decide)
        have k23 := atp.tg k7 hq hxq (by decide)
        refine lv_aload_n hx hb dX8_follow_34 rfl (lv_at hl 1 rfl) ?_
        refine lv_iload hx hb dX8_follow_35 (lv_at hl 4 rfl) ?_
        refine lv_iload hx hb dX8_follow_37 (lv_at hl 5 rfl) ?_
        refine k_i (r_S C h hl (As := [.ref u1, .int v9_4, .int v9_5]) (rest := []) (s_X8_newXX l D G b0 τ f15 tf15 u1 hu1 v9_4 iv9_4 v9_5 iv9_5 wq hwq k18 ww k21) mk_X8_newX w_974 w_958 w_959 ⟨Nat.le_of_ble_eq_true rfl, Nat.le_of_ble_eq_true rfl⟩ rfl (Nat.le_of_ble_eq_true rfl) ⟨Nat.le_of_ble_eq_true rfl, Nat.le_of_ble_eq_true rfl⟩ rfl dX8_follow_39) h (fun r24 f25 H locs p26 h => ?_)
        obtain ⟨ir24, tf25, ogf25, x0r24⟩ := p26
        have egf25 := Fr.nil2 ogf25
        subst egf25
        obtain ⟨ax_, ay_, an_, ah_⟩ := os_x hv9_1 (j := v9_6.toInt + 1) (by omega) rfl hv9_2 hv9_3 x0r24
        refine lv_istore (lv' := [(4, .int r24), (0, .ref u0), (1, .ref u1), (2, .int u2), (3, .int u3), (5, .int v9_5), (6, .int v9_6)]) hx hb dX8_follow_42 hl (by decide) rfl (fun ls hl => ?_)
        refine lv_iload hx hb dX8_follow_44 (lv_at hl 0 rfl) ?_
        refine lv_iconst (v := -1) hx hb dX8_follow_46 (by decide) ?_
        refine lv_icmp_ne (tgt := 52) hx hb dX8_follow_47 (by decide) (fun c27 => ?_) (fun c27 => ?_)
        · have c28 : r24.toInt ≠ (-1) := fun z_ => c27 (Int32.toInt_inj.mp z_)
          have i29 : iv r24 0 1000002 := iv_Nl c28 ir24 (by decide)
          refine lv_aload_n hx hb dX8_follow_52 rfl (lv_at hl 1 rfl) ?_
          refine t_getfd C h tf15 hu0 (by decide) wf_35 (v := .ref xq) k19 fl_X8_11 dX8_follow_53 ?_
          refine lv_iload hx hb dX8_follow_56 (lv_at hl 6 rfl) ?_
          refine lv_iconst (v := 1) hx hb dX8_follow_58 (by decide) ?_
          refine i_addk hx hb dX8_follow_59 i5 (k := 1) rfl (lo := 1) (hi := 40) (by decide) (fun z32 ez32 mz32 iz32 => ?_)
          refine lv_iload hx hb dX8_follow_60 (lv_at hl 0 rfl) ?_
          refine e_iast C h tf15 of15 hxq (by decide) (by decide) wf_36 fw_36 k23 (ix_o (by omega)) (iv_w i29 (by decide)) dX8_follow_62 (fun R35 f33 erR35 H locs h tf33 of33 hq hn_ k34 => ?_)
          have k36 := atp.tg k18 hq hu1 (by decide)
          have k37 := atp.tg k19 hq hu0 (by decide)
          have k38 := atp.tg k20 hq hu0 (by decide)
          have k39 := atp.tg k21 hq hwq (by decide)
          have k41 := atp.tg k16 hq hyq (by decide)
          refine lv_aload_n hx hb dX8_follow_63 rfl (lv_at hl 1 rfl) ?_
          refine t_getfd C h tf33 hu0 (by decide) wf_35 (v := .ref yq) k38 fl_X8_15 dX8_follow_64 ?_
          refine lv_iload hx hb dX8_follow_67 (lv_at hl 6 rfl) ?_
          refine lv_iconst (v := 1) hx hb dX8_follow_69 (by decide) ?_
          refine i_addk hx hb dX8_follow_70 i5 (k := 1) rfl (lo := 1) (hi := 40) (by decide) (fun z42 ez42 mz42 iz42 => ?_)
          refine lv_iload hx hb dX8_follow_71 (lv_at hl 5 rfl) ?_
          refine e_iast C h tf33 of33 hyq (by decide) (by decide) wf_80 fw_80 k41 (ix_o (by omega)) (iv_w iv9_5 (by decide)) dX8_follow_73 (fun R45 f43 erR45 H locs h tf43 of43 hq hn_ k44 => ?_)
          have k46 := atp.tg k36 hq hu1 (by decide)
          have k47 := atp.tg k37 hq hu0 (by decide)
          have k48 := atp.tg k38 hq hu0 (by decide)
          have k49 := atp.tg k39 hq hwq (by decide)
          have k51 := atp.tg k34 hq hxq (by decide)
          refine lv_aload_n hx hb dX8_follow_74 rfl (lv_at hl 2 rfl) ?_
          refine lv_iload hx hb dX8_follow_75 (lv_at hl 0 rfl) ?_
          refine lv_iload hx hb dX8_follow_77 (lv_at hl 5 rfl) ?_
          refine k_i (r_S C h hl (As := [.ref u1, .int r24, .int v9_5]) (rest := []) (s_X8_newYX l D G b0 τ f43 tf43 u1 hu1 r24 i29 v9_5 iv9_5 wq hwq k46 ww k49) mk_X8_newY w_975 w_964 w_965 ⟨Nat.le_of_ble_eq_true rfl, Nat.le_of_ble_eq_true rfl⟩ rfl (Nat.le_of_ble_eq_true rfl) ⟨Nat.le_of_ble_eq_true rfl, Nat.le_of_ble_eq_true rfl⟩ rfl dX8_follow_79) h (fun r52 f53 H locs p54 h => ?_)
          obtain ⟨ir52, tf53, ogf53, x0r52⟩ := p54
          have egf53 := Fr.nil2 ogf53
          subst egf53
          obtain ⟨bx_, by_, bn_, bf_, bs_⟩ := oh_x (ah_ (by omega)) (j := v9_6.toInt + 1 + 1) rfl ax_ ay_ x0r52
          refine lv_istore (lv' := [(5, .int r52), (4, .int r24), (0, .ref u0), (1, .ref u1), (2, .int u2), (3, .int u3), (6, .int v9_6)]) hx hb dX8_follow_82 hl (by decide) rfl (fun ls hl => ?_)
          refine lv_iload hx hb dX8_follow_84 (lv_at hl 0 rfl) ?_
          refine lv_iconst (v := -1) hx hb dX8_follow_86 (by decide) ?_
          refine lv_icmp_ne (tgt := 92) hx hb dX8_follow_87 (by decide) (fun c55 => ?_) (fun c55 => ?_)
          · have c56 : r52.toInt ≠ (-1) := fun z_ => c55 (Int32.toInt_inj.mp z_)
            have i57 : iv r52 0 1000002 := iv_Nl c56 ir52 (by decide)
            refine lv_iload hx hb dX8_follow_92 (lv_at hl 1 rfl) ?_
            refine lv_iload_n hx hb dX8_follow_94 rfl (lv_at hl 4 rfl) ?_
            refine lv_icmp_ne (tgt := 109) hx hb dX8_follow_95 (by decide) (fun c60 => ?_) (fun c60 => ?_)
            · have c61 : r24.toInt ≠ u2.toInt := fun z_ => c60 (Int32.toInt_inj.mp z_)
              refine i_inc hx hb dX8_follow_109 hl (k := 6) rfl i5 rfl (lo := 2) (hi := 41) (by decide) (by decide) (lv' := fun v => [(6, .int v), (5, .int r52), (4, .int r24), (0, .ref u0), (1, .ref u1), (2, .int u2), (3, .int u3)]) (fun _ => rfl) (fun z63 ls ez63 mz63 iz63 hl => ?_)
              refine lv_goto (tgt := 9) hx hb dX8_follow_112 (by decide) ?_
              exact ih9 ls f43 H locs r24 r52 z63 R35 R45 (show 40 - z63.toInt < _ by omega) (lv_cons hl 3 rfl (lv_cons hl 4 rfl (lv_cons hl 5 rfl (lv_cons hl 6 rfl (lv_cons hl 2 rfl (lv_cons hl 1 rfl (lv_cons hl 0 rfl (lv_nil hl)))))))) h tf43 of43 i29 i57 (show iv z63 0 40 from by omega) k46 k47 k48 k49 k51 k44 (show z63.toInt % 2 = 0 by omega) (show OS (fun k : Int => (ww k.toNat).toInt) u2.toInt u3.toInt z63.toInt from (by have h_ := bs_ (by omega) (by omega); rw [show z63.toInt = v9_6.toInt + 1 + 1 by omega]; exact h_)) (show r24.toInt = PX (fun k : Int => (ww k.toNat).toInt) u2.toInt u3.toInt z63.toInt from (by have h_ := bx_; rw [show z63.toInt = v9_6.toInt + 1 + 1 by omega]; exact h_)) (show r52.toInt = PY (fun k : Int => (ww k.toNat).toInt) u2.toInt u3.toInt z63.toInt from (by have h_ := by_; rw [show z63.toInt = v9_6.toInt + 1 + 1 by omega]; exact h_)) (show RC (fun k : Int => (ww k.toNat).toInt) u2.toInt u3.toInt z63.toInt R35 R45 from (by have h_ := rc_s (rc_s hv9_4 erR8 erR17 (by omega) (by omega) ⟨hv9_2, by omega, by omega⟩ ⟨hv9_3, by omega, by omega⟩) erR35 erR45 (by omega) (by omega) ⟨ax_, by omega, by omega⟩ ⟨ay_, by omega, by omega⟩; rw [show z63.toInt = v9_6.toInt + 1 + 1 by omega]; exact h_))
            · have c62 : r24.toInt = u2.toInt := congrArg Int32.toInt c60
              refine lv_iload hx hb dX8_follow_98 (lv_at hl 0 rfl) ?_
              refine lv_iload_n hx hb dX8_follow_100 rfl (lv_at hl 5 rfl) ?_
              refine lv_icmp_ne (tgt := 109) hx hb dX8_follow_101 (by decide) (fun c64 => ?_) (fun c64 => ?_)
              · have c65 : r52.toInt ≠ u3.toInt := fun z_ => c64 (Int32.toInt_inj.mp z_)
                refine i_inc hx hb dX8_follow_109 hl (k := 6) rfl i5 rfl (lo := 2) (hi := 41) (by decide) (by decide) (lv' := fun v => [(6, .int v), (5, .int r52), (4, .int r24), (0, .ref u0), (1, .ref u1), (2, .int u2), (3, .int u3)]) (fun _ => rfl) (fun z67 ls ez67 mz67 iz67 hl => ?_)
                refine lv_goto (tgt := 9) hx hb dX8_follow_112 (by decide) ?_
                exact ih9 ls f43 H locs r24 r52 z67 R35 R45 (show 40 - z67.toInt < _ by omega) (lv_cons hl 3 rfl (lv_cons hl 4 rfl (lv_cons hl 5 rfl (lv_cons hl 6 rfl (lv_cons hl 2 rfl (lv_cons hl 1 rfl (lv_cons hl 0 rfl (lv_nil hl)))))))) h tf43 of43 i29 i57 (show iv z67 0 40 from by omega) k46 k47 k48 k49 k51 k44 (show z67.toInt % 2 = 0 by omega) (show OS (fun k : Int => (ww k.toNat).toInt) u2.toInt u3.toInt z67.toInt from (by have h_ := bs_ (by omega) (by omega); rw [show z67.toInt = v9_6.toInt + 1 + 1 by omega]; exact h_)) (show r24.toInt = PX (fun k : Int => (ww k.toNat).toInt) u2.toInt u3.toInt z67.toInt from (by have h_ := bx_; rw [show z67.toInt = v9_6.toInt + 1 + 1 by omega]; exact h_)) (show r52.toInt = PY (fun k : Int => (ww k.toNat).toInt) u2.toInt u3.toInt z67.toInt from (by have h_ := by_; rw [show z67.toInt = v9_6.toInt + 1 + 1 by omega]; exact h_)) (show RC (fun k : Int => (ww k.toNat).toInt) u2.toInt u3.toInt z67.toInt R35 R45 from (by have h_ := rc_s (rc_s hv9_4 erR8 erR17 (by omega) (by omega) ⟨hv9_2, by omega, by omega⟩ ⟨hv9_3, by omega, by omega⟩) erR35 erR45 (by omega) (by omega) ⟨ax_, by omega, by omega⟩ ⟨ay_, by omega, by omega⟩; rw [show z67.toInt = v9_6.toInt + 1 + 1 by omega]; exact h_))
              · have c66 : r52.toInt = u3.toInt := congrArg Int32.toInt c64
                refine lv_iload hx hb dX8_follow_104 (lv_at hl 6 rfl) ?_
                refine lv_iconst (v := 2) hx hb dX8_follow_106 (by decide) ?_
                refine i_addk hx hb dX8_follow_107 i5 (k := 2) rfl (lo := 2) (hi := 41) (by decide) (fun z68 ez68 mz68 iz68 => ?_)
                exact u_iret C h hr hQ (⟨(show iv z68 (-1) 40 from by omega), tf43, of43, (by have h_ := bf_ (by omega) (by omega) (by omega); omega), ⟨R35, R45, k51, k44, (fun _ => by have h_ := rc_s (rc_s hv9_4 erR8 erR17 (by omega) (by omega) ⟨hv9_2, by omega, by omega⟩ ⟨hv9_3, by omega, by omega⟩) erR35 erR45 (by omega) (by omega) ⟨ax_, by omega, by omega⟩ ⟨ay_, by omega, by omega⟩; rw [show z68.toInt = v9_6.toInt + 1 + 1 by omega]; exact h_)⟩⟩) (Nat.le_of_ble_eq_true rfl) (Nat.le_of_ble_eq_true rfl) dX8_follow_108
          · have c58 : r52.toInt = (-1) := congrArg Int32.toInt c55
            have i59 : iv r52 (-1) (-1) := iv_Q c58 ir52 (iv_k (x := (-1)) (k := (-1)) rfl) (by decide)
            refine lv_iconst (v := -1) hx hb dX8_follow_90 (by decide) ?_
            exact u_iret C h hr hQ (⟨⟨by decide, by decide⟩, tf43, of43, (bn_ (by omega)).symm, ⟨R35, R45, k51, k44, (fun z_ => absurd rfl z_)⟩⟩) (Nat.le_of_ble_eq_true rfl) (Nat.le_of_ble_eq_true rfl) dX8_follow_91
        · have c30 : r24.toInt = (-1) := congrArg Int32.toInt c27
          have i31 : iv r24 (-1) (-1) := iv_Q c30 ir24 (iv_k (x := (-1)) (k := (-1)) rfl) (by decide)
          refine lv_iconst (v := -1) hx hb dX8_follow_50 (by decide) ?_
          exact u_iret C h hr hQ (⟨⟨by decide, by decide⟩, tf15, of15, (an_ (by omega)).symm, ⟨R8, R17, k23, k16, (fun z_ => absurd rfl z_)⟩⟩) (Nat.le_of_ble_eq_true rfl) (Nat.le_of_ble_eq_true rfl) dX8_follow_51
  refine lv_iload_n hx hb dX8_follow_0 rfl (lv_at hl 2 rfl) ?_
  refine lv_istore (lv' := [(4, .int u2), (0, .ref u0), (1, .ref u1), (2, .int u2), (3, .int u3)]) hx hb dX8_follow_1 hl (by decide) rfl (fun ls hl => ?_)
  refine lv_iload_n hx hb dX8_follow_3 rfl (lv_at hl 4 rfl) ?_
  refine lv_istore (lv' := [(5, .int u3), (4, .int u2), (0, .ref u0), (1, .ref u1), (2, .int u2), (3, .int u3)]) hx hb dX8_follow_4 hl (by decide) rfl (fun ls hl => ?_)
  refine lv_iconst (v := 0) hx hb dX8_follow_6 (by decide) ?_
  refine lv_istore (lv' := [(6, .int 0), (5, .int u3), (4, .int u2), (0, .ref u0), (1, .ref u1), (2, .int u2), (3, .int u3)]) hx hb dX8_follow_7 hl (by decide) rfl (fun ls hl => ?_)
  exact L9 41 ls f s.heap [] u2 u3 0 rx ry (by decide) (lv_cons hl 3 rfl (lv_cons hl 4 rfl (lv_cons hl 5 rfl (lv_cons hl 6 rfl (lv_cons hl 2 rfl (lv_cons hl 1 rfl (lv_cons hl 0 rfl (lv_nil hl)))))))) h t o hu2 hu3 ⟨by decide, by decide⟩ k_u1_0 k_u0_0 k_u0_1 hRwq hRxq hRyq (show 0 % 2 = 0 by omega) (show OS (fun k : Int => (ww k.toNat).toInt) u2.toInt u3.toInt 0 from os_0) (show u2.toInt = PX (fun k : Int => (ww k.toNat).toInt) u2.toInt u3.toInt 0 from rfl) (show u3.toInt = PY (fun k : Int => (ww k.toNat).toInt) u2.toInt u3.toInt 0 from rfl) (show RC (fun k : Int => (ww k.toNat).toInt) u2.toInt u3.toInt 0 rx ry from rc_0)
abbrev rm_s_X8_greatestX : Room := { frames := 4, cells := 0, slots := 0, locals := 97 }
set_option maxRecDepth 100000 in
set_option maxHeartbeats 4000000 in
theorem s_X8_greatestX (l : Launch) (D : va_G) (G : Nat → Nat) (b0 : Nat) (τ : Nat → Nat) (f : hM) (t : TI G 9 τ f) (u0 : Nat) (hu0 : τ u0 = 35) (u1 : Nat) (hu1 : τ u1 = 1) (wq : Nat) (hwq : τ wq = 2) (k_u1_0 : atp f u1 (fd 0 (.ref wq))) (xq : Nat) (hxq : τ xq = 36) (k_u0_0 : atp f u0 (fd 0 (.ref xq))) (yq : Nat) (hyq : τ yq = 80) (k_u0_1 : atp f u0 (fd 1 (.ref yq))) (ww : Nat → Int32) (hRwq : atp f wq (eqc (.inl (G 1, 8, .inl ww)))) (rx : Nat → Int32) (hRxq : atp f xq (eqc (.inl (G 1, 40, .inl rx)))) (ry : Nat → Int32) (hRyq : atp f yq (eqc (.inl (G 1, 40, .inl ry)))) : mI l yX8_greatest cX8_greatest 5 (.int) rm_s_X8_greatestX D G b0 f [.ref u0, .ref u1] (fun r f1 => iv r (-1) 40 ∧ TI G 9 τ f1 ∧ Fr [36, 80] τ f f1 ∧ (r.toInt = GRP (fun k : Int => (ww k.toNat).toInt))) := by
  refine met2 (own := RX8) (by decide) rfl (Nat.le_of_ble_eq_true rfl) ?_
  intro p e s m args below meth c ls Q hQ C hr hini hl h
  have hl : lv_has ls 5 [(0, .ref u0), (1, .ref u1)] := hl
  obtain ⟨hx, hb, hml, hown, hts, hE0, hlk⟩ := id C
  have o := Fr.rf [36, 80] τ f
  refine lv_aload_n hx hb dX8_greatest_0 rfl (lv_at hl 0 rfl) ?_
  refine lv_aload_n hx hb dX8_greatest_1 rfl (lv_at hl 1 rfl) ?_
  refine lv_iconst (v := 2) hx hb dX8_greatest_2 (by decide) ?_
  refine lv_iconst (v := 3) hx hb dX8_greatest_3 (by decide) ?_
  obtain ⟨_, r1⟩ := t_rec t hu0 (by decide) wf_35
  refine k_i (r_V C h hl (As := [.ref u1, .int 2, .int 3]) (rest := []) (s_X8_followX l D G b0 τ f t u0 hu0 u1 hu1 2 (iv_w (iv_k (x := 2) (k := 2) rfl) (by decide)) 3 (iv_w (iv_k (x := 3) (k := 3) rfl) (by decide)) wq hwq k_u1_0 xq hxq k_u0_0 yq hyq k_u0_1 ww hRwq rx hRxq ry hRyq) r1 (Cn := RX8) (T := TX8) (N := 2) rfl rfl mk_X8_follow w_984 w_971 w_972 w_973 ⟨Nat.le_of_ble_eq_true rfl, Nat.le_of_ble_eq_true rfl⟩ rfl (Nat.le_of_ble_eq_true rfl) ⟨Nat.le_of_ble_eq_true rfl, Nat.le_of_ble_eq_true rfl⟩ rfl dX8_greatest_4) h (fun r2 f3 H locs p4 h => ?_)
  have n5 : (2 : Int32).toInt = 2 := rfl
  have n6 : (3 : Int32).toInt = 3 := rfl
  obtain ⟨ir2, tf3, ogf3, x0r2, ⟨rx1_f3, ry1_f3, kRxqf3, kRyqf3, jtf3⟩⟩ := p4
  have x0r2 : r2.toInt = OG (fun k : Int => (ww k.toNat).toInt) 2 3 := x0r2
  have of3 : Fr [36, 80] τ f f3 := Fr.tr o ogf3 (by decide) (by decide)
  have k7 := atp.fr k_u1_0 ogf3 hu1 (by decide)
  have k8 := atp.fr k_u0_0 ogf3 hu0 (by decide)
  have k9 := atp.fr k_u0_1 ogf3 hu0 (by decide)
  have k10 := atp.fr hRwq ogf3 hwq (by decide)
  refine lv_istore_n (lv' := [(2, .int r2), (0, .ref u0), (1, .ref u1)]) hx hb dX8_greatest_7 rfl hl (by decide) rfl (fun ls hl => ?_)
  refine lv_iload_n hx hb dX8_greatest_8 rfl (lv_at hl 0 rfl) ?_
  refine lv_iconst (v := -1) hx hb dX8_greatest_9 (by decide) ?_
  refine lv_icmp_ne (tgt := 17) hx hb dX8_greatest_10 (by decide) (fun c11 => ?_) (fun c11 => ?_)
  · have c12 : r2.toInt ≠ (-1) := fun z_ => c11 (Int32.toInt_inj.mp z_)
    have i13 : iv r2 0 40 := iv_Nl c12 ir2 (by decide)
    refine lv_aload_n hx hb dX8_greatest_17 rfl (lv_at hl 1 rfl) ?_
    refine lv_aload_n hx hb dX8_greatest_18 rfl (lv_at hl 2 rfl) ?_
    refine lv_iconst (v := 5) hx hb dX8_greatest_19 (by decide) ?_
    refine lv_bipush (v := 7) hx hb dX8_greatest_20 (by decide) ?_
    obtain ⟨_, r16⟩ := t_rec tf3 hu0 (by decide) wf_35
    refine k_i (r_V C h hl (As := [.ref u1, .int 5, .int 7]) (rest := []) (s_X8_followX l D G b0 τ f3 tf3 u0 hu0 u1 hu1 5 (iv_w (iv_k (x := 5) (k := 5) rfl) (by decide)) 7 (iv_w (iv_k (x := 7) (k := 7) rfl) (by decide)) wq hwq k7 xq hxq k8 yq hyq k9 ww k10 rx1_f3 kRxqf3 ry1_f3 kRyqf3) r16 (Cn := RX8) (T := TX8) (N := 2) rfl rfl mk_X8_follow w_984 w_971 w_972 w_973 ⟨Nat.le_of_ble_eq_true rfl, Nat.le_of_ble_eq_true rfl⟩ rfl (Nat.le_of_ble_eq_true rfl) ⟨Nat.le_of_ble_eq_true rfl, Nat.le_of_ble_eq_true rfl⟩ rfl dX8_greatest_22) h (fun r17 f18 H locs p19 h => ?_)
    have n20 : (5 : Int32).toInt = 5 := rfl
    have n21 : (7 : Int32).toInt = 7 := rfl
    obtain ⟨ir17, tf18, ogf18, x0r17, ⟨rx1_f18, ry1_f18, kRxqf18, kRyqf18, jtf18⟩⟩ := p19
    have x0r17 : r17.toInt = OG (fun k : Int => (ww k.toNat).toInt) 5 7 := x0r17
    have of18 : Fr [36, 80] τ f f18 := Fr.tr of3 ogf18 (by decide) (by decide)
    have k22 := atp.fr k7 ogf18 hu1 (by decide)
    have k23 := atp.fr k8 ogf18 hu0 (by decide)
    have k24 := atp.fr k9 ogf18 hu0 (by decide)
    have k25 := atp.fr k10 ogf18 hwq (by decide)
    refine lv_istore_n (lv' := [(3, .int r17), (2, .int r2), (0, .ref u0), (1, .ref u1)]) hx hb dX8_greatest_25 rfl hl (by decide) rfl (fun ls hl => ?_)
    refine lv_iload_n hx hb dX8_greatest_26 rfl (lv_at hl 0 rfl) ?_
    refine lv_iconst (v := -1) hx hb dX8_greatest_27 (by decide) ?_
    refine lv_icmp_ne (tgt := 35) hx hb dX8_greatest_28 (by decide) (fun c26 => ?_) (fun c26 => ?_)
    · have c27 : r17.toInt ≠ (-1) := fun z_ => c26 (Int32.toInt_inj.mp z_)
      have i28 : iv r17 0 40 := iv_Nl c27 ir17 (by decide)
      refine lv_aload_n hx hb dX8_greatest_35 rfl (lv_at hl 2 rfl) ?_
      refine lv_aload_n hx hb dX8_greatest_36 rfl (lv_at hl 3 rfl) ?_
      refine lv_bipush (v := 11) hx hb dX8_greatest_37 (by decide) ?_
      refine lv_bipush (v := 13) hx hb dX8_greatest_39 (by decide) ?_
      obtain ⟨_, r31⟩ := t_rec tf18 hu0 (by decide) wf_35
      refine k_i (r_V C h hl (As := [.ref u1, .int 11, .int 13]) (rest := []) (s_X8_followX l D G b0 τ f18 tf18 u0 hu0 u1 hu1 11 (iv_w (iv_k (x := 11) (k := 11) rfl) (by decide)) 13 (iv_w (iv_k (x := 13) (k := 13) rfl) (by decide)) wq hwq k22 xq hxq k23 yq hyq k24 ww k25 rx1_f18 kRxqf18 ry1_f18 kRyqf18) r31 (Cn := RX8) (T := TX8) (N := 2) rfl rfl mk_X8_follow w_984 w_971 w_972 w_973 ⟨Nat.le_of_ble_eq_true rfl, Nat.le_of_ble_eq_true rfl⟩ rfl (Nat.le_of_ble_eq_true rfl) ⟨Nat.le_of_ble_eq_true rfl, Nat.le_of_ble_eq_true rfl⟩ rfl dX8_greatest_41) h (fun r32 f33 H locs p34 h => ?_)
      have n35 : (11 : Int32).toInt = 11 := rfl
      have n36 : (13 : Int32).toInt = 13 := rfl
      obtain ⟨ir32, tf33, ogf33, x0r32, ⟨rx1_f33, ry1_f33, kRxqf33, kRyqf33, jtf33⟩⟩ := p34
      have x0r32 : r32.toInt = OG (fun k : Int => (ww k.toNat).toInt) 11 13 := x0r32
      have of33 : Fr [36, 80] τ f f33 := Fr.tr of18 ogf33 (by decide) (by decide)
      have k37 := atp.fr k22 ogf33 hu1 (by decide)
      have k38 := atp.fr k23 ogf33 hu0 (by decide)
      have k39 := atp.fr k24 ogf33 hu0 (by decide)
      have k40 := atp.fr k25 ogf33 hwq (by decide)
      refine lv_istore (lv' := [(4, .int r32), (3, .int r17), (2, .int r2), (0, .ref u0), (1, .ref u1)]) hx hb dX8_greatest_44 hl (by decide) rfl (fun ls hl => ?_)
      refine lv_iload hx hb dX8_greatest_46 (lv_at hl 0 rfl) ?_
      refine lv_iconst (v := -1) hx hb dX8_greatest_48 (by decide) ?_
      refine lv_icmp_ne (tgt := 56) hx hb dX8_greatest_49 (by decide) (fun c41 => ?_) (fun c41 => ?_)
      · have c42 : r32.toInt ≠ (-1) := fun z_ => c41 (Int32.toInt_inj.mp z_)
        have i43 : iv r32 0 40 := iv_Nl c42 ir32 (by decide)
        refine lv_iload_n hx hb dX8_greatest_56 rfl (lv_at hl 2 rfl) ?_
        refine lv_iload_n hx hb dX8_greatest_57 rfl (lv_at hl 1 rfl) ?_
        refine lv_iload hx hb dX8_greatest_58 (lv_at hl 0 rfl) ?_
        refine va_mmax hx hb (hml.trans hl.1.symm) hown (hts _ w_985) (hts _ w_453) (hts _ w_112) (hts _ w_454) (Nat.le_of_ble_eq_true rfl) (Nat.le_of_ble_eq_true rfl) (Nat.le_of_ble_eq_true rfl) (Nat.le_of_ble_eq_true rfl) dX8_greatest_60 (i_max i28 i43 (lo := 0) (hi := 40) (by decide) (fun z46 mz46 iz46 => ?_))
        refine va_mmax hx hb (hml.trans hl.1.symm) hown (hts _ w_985) (hts _ w_453) (hts _ w_112) (hts _ w_454) (Nat.le_of_ble_eq_true rfl) (Nat.le_of_ble_eq_true rfl) (Nat.le_of_ble_eq_true rfl) (Nat.le_of_ble_eq_true rfl) dX8_greatest_63 (i_max i13 iz46 (lo := 0) (hi := 40) (by decide) (fun z47 mz47 iz47 => ?_))
        exact u_iret C h hr hQ (⟨(iv_w iz47 (by decide)), tf33, of33, (by unfold GRP gr3; split <;> omega)⟩) (Nat.le_of_ble_eq_true rfl) (Nat.le_of_ble_eq_true rfl) dX8_greatest_66
      · have c44 : r32.toInt = (-1) := congrArg Int32.toInt c41
        have i45 : iv r32 (-1) (-1) := iv_Q c44 ir32 (iv_k (x := (-1)) (k := (-1)) rfl) (by decide)
        refine lv_iconst (v := -1) hx hb dX8_greatest_52 (by decide) ?_
        refine lv_goto (tgt := 66) hx hb dX8_greatest_53 (by decide) ?_
        exact u_iret C h hr hQ (⟨⟨by decide, by decide⟩, tf33, of33, (by unfold GRP gr3; have n_ : (-1 : Int32).toInt = -1 := rfl; split <;> omega)⟩) (Nat.le_of_ble_eq_true rfl) (Nat.le_of_ble_eq_true rfl) dX8_greatest_66
    · have c29 : r17.toInt = (-1) := congrArg Int32.toInt c26
      have i30 : iv r17 (-1) (-1) := iv_Q c29 ir17 (iv_k (x := (-1)) (k := (-1)) rfl) (by decide)
      refine lv_iconst (v := -1) hx hb dX8_greatest_31 (by decide) ?_
      refine lv_goto (tgt := 44) hx hb dX8_greatest_32 (by decide) ?_
      refine lv_istore (lv' := [(4, .int (-1)), (3, .int r17), (2, .int r2), (0, .ref u0), (1, .ref u1)]) hx hb dX8_greatest_44 hl (by decide) rfl (fun ls hl => ?_)
      refine lv_iload hx hb dX8_greatest_46 (lv_at hl 0 rfl) ?_
      refine lv_iconst (v := -1) hx hb dX8_greatest_48 (by decide) ?_
      refine lv_icmp_ne (tgt := 56) hx hb dX8_greatest_49 (by decide) (fun c48 => ?_) (fun c48 => ?_)
      · exact absurd c48 (by decide)
      · refine lv_iconst (v := -1) hx hb dX8_greatest_52 (by decide) ?_
        refine lv_goto (tgt := 66) hx hb dX8_greatest_53 (by decide) ?_
        exact u_iret C h hr hQ (⟨⟨by decide, by decide⟩, tf18, of18, (by unfold GRP gr3; have n_ : (-1 : Int32).toInt = -1 := rfl; split <;> omega)⟩) (Nat.le_of_ble_eq_true rfl) (Nat.le_of_ble_eq_true rfl) dX8_greatest_66
  · have c14 : r2.toInt = (-1) := congrArg Int32.toInt c11
    have i15 : iv r2 (-1) (-1) := iv_Q c14 ir2 (iv_k (x := (-1)) (k := (-1)) rfl) (by decide)
    refine lv_iconst (v := -1) hx hb dX8_greatest_13 (by decide) ?_
    refine lv_goto (tgt := 25) hx hb dX8_greatest_14 (by decide) ?_
    refine lv_istore_n (lv' := [(3, .int (-1)), (2, .int r2), (0, .ref u0), (1, .ref u1)]) hx hb dX8_greatest_25 rfl hl (by decide) rfl (fun ls hl => ?_)
    refine lv_iload_n hx hb dX8_greatest_26 rfl (lv_at hl 0 rfl) ?_
    refine lv_iconst (v := -1) hx hb dX8_greatest_27 (by decide) ?_
    refine lv_icmp_ne (tgt := 35) hx hb dX8_greatest_28 (by decide) (fun c51 => ?_) (fun c51 => ?_)
    · exact absurd c51 (by decide)
    · refine lv_iconst (v := -1) hx hb dX8_greatest_31 (by decide) ?_
      refine lv_goto (tgt := 44) hx hb dX8_greatest_32 (by decide) ?_
      refine lv_istore (lv' := [(4, .int (-1)), (3, .int (-1)), (2, .int r2), (0, .ref u0), (1, .ref u1)]) hx hb dX8_greatest_44 hl (by decide) rfl (fun ls hl => ?_)
      refine lv_iload hx hb dX8_greatest_46 (lv_at hl 0 rfl) ?_
      refine lv_iconst (v := -1) hx hb dX8_greatest_48 (by decide) ?_
      refine lv_icmp_ne (tgt := 56) hx hb dX8_greatest_49 (by decide) (fun c54 => ?_) (fun c54 => ?_)
      · exact absurd c54 (by decide)
      · refine lv_iconst (v := -1) hx hb dX8_greatest_52 (by decide) ?_
        refine lv_goto (tgt := 66) hx hb dX8_greatest_53 (by decide) ?_
        exact u_iret C h hr hQ (⟨⟨by decide, by decide⟩, tf3, of3, (by unfold GRP gr3; have n_ : (-1 : Int32).toInt = -1 := rfl; split <;> omega)⟩) (Nat.le_of_ble_eq_true rfl) (Nat.le_of_ble_eq_true rfl) dX8_greatest_66
abbrev rm_s_X8_alternatingX : Room := { frames := 1, cells := 0, slots := 0, locals := 23 }
set_option maxRecDepth 100000 in
set_option maxHeartbeats 4000000 in
theorem s_X8_alternatingX (l : Launch) (D : va_G) (G : Nat → Nat) (b0 : Nat) (τ : Nat → Nat) (f : hM) (t : TI G 9 τ f) (u0 : Nat) (hu0 : τ u0 = 35) (u1 : Int32) (hu1 : iv u1 0 40) (xq : Nat) (hxq : τ xq = 36) (k_u0_0 : atp f u0 (fd 0 (.ref xq))) (yq : Nat) (hyq : τ yq = 80) (k_u0_1 : atp f u0 (fd 1 (.ref yq))) (rx : Nat → Int32) (hRxq : atp f xq (eqc (.inl (G 1, 40, .inl rx)))) (ry : Nat → Int32) (hRyq : atp f yq (eqc (.inl (G 1, 40, .inl ry)))) (Wf : Int → Int) (x y : Int) (hRC : RC Wf x y u1.toInt rx ry) : mI l yX8_alternating cX8_alternating 6 (.int) rm_s_X8_alternatingX D G b0 f [.ref u0, .int u1] (fun r f1 => iv r 0 1000002 ∧ TI G 9 τ f1 ∧ Fr [] τ f f1 ∧ (r.toInt = alt Wf x y u1.toInt.toNat % 1000003)) := by
  refine met2 (own := RX8) (by decide) rfl (Nat.le_of_ble_eq_true rfl) ?_
  intro p e s m args below meth c ls Q hQ C hr hini hl h
  have hl : lv_has ls 6 [(0, .ref u0), (1, .int u1)] := hl
  obtain ⟨hx, hb, hml, hown, hts, hE0, hlk⟩ := id C
  have o := Fr.rf [] τ f
  have L5 : ∀ (n5 : Nat) (ls : Array Slot) (f_5 : hM) (H : Heap) (locs : List Loc) (v5_2 : Int64) (v5_4 : Int32), 40 - v5_4.toInt < (n5 : Int) → lv_has ls 6 [(0, .ref u0), (1, .int u1), (2, .long v5_2), (4, .int v5_4)] → hw D b0 s.heap f_5 H locs → TI G 9 τ f_5 → Fr [] τ f f_5 → iv v5_4 0 40 → atp f_5 u0 (fd 0 (.ref xq)) → atp f_5 u0 (fd 1 (.ref yq)) → atp f_5 xq (eqc (.inl (G 1, 40, .inl rx))) → atp f_5 yq (eqc (.inl (G 1, 40, .inl ry))) → -1000002 * v5_4.toInt ≤ v5_2.toInt ∧ v5_2.toInt ≤ 1000002 * v5_4.toInt → (v5_2.toInt = alt Wf x y (Int.toNat v5_4.toInt)) → v5_4.toInt ≤ u1.toInt → W p l e rm_s_X8_alternatingX s m args below meth c H locs 0 0 Q (F0 m 5 ls []) := by
    intro n5
    induction n5 with
    | zero => intro ls f_5 H locs v5_2 v5_4 hm5 hl h t_5 o_5 iv5_4 k5_u0_0 k5_u0_1 k5_xq_R k5_yq_R hv5_0 hv5_1 hv5_2; exact absurd hm5 (by omega)
    | succ n5 ih5 =>
      intro ls f_5 H locs v5_2 v5_4 hm5 hl h t_5 o_5 iv5_4 k5_u0_0 k5_u0_1 k5_xq_R k5_yq_R hv5_0 hv5_1 hv5_2
      refine lv_iload hx hb dX8_alternating_5 (lv_at hl 3 rfl) ?_
      refine lv_iload_n hx hb dX8_alternating_7 rfl (lv_at hl 1 rfl) ?_
      refine lv_icmp_ge (tgt := 65) hx hb dX8_alternating_8 (by decide) (fun c1 => ?_) (fun c1 => ?_)
      · have c2 : u1.toInt ≤ v5_4.toInt := Int32.le_iff_toInt_le.mp c1
        refine lv_lload_n hx hb dX8_alternating_65 rfl (lv_at hl 2 rfl) ?_
        refine k_i (r_SN C h hl (host := "QuarterWalks") (As := [.long v5_2]) (rest := []) (s_X10_residueX l D G b0 τ f_5 t_5 v5_2) mk_X10_residue (by decide) w_741 w_742 ⟨Nat.le_of_ble_eq_true rfl, Nat.le_of_ble_eq_true rfl⟩ rfl (Nat.le_of_ble_eq_true rfl) ⟨Nat.le_of_ble_eq_true rfl, Nat.le_of_ble_eq_true rfl⟩ rfl dX8_alternating_66) h (fun r6 f7 H locs p8 h => ?_)
        obtain ⟨ir6, tf7, ogf7, x0r6⟩ := p8
        have egf7 := Fr.nil2 ogf7
        subst egf7
        exact u_iret C h hr hQ (⟨ir6, t_5, o_5, (by rw [x0r6, hv5_1, show v5_4.toInt = u1.toInt by omega])⟩) (Nat.le_of_ble_eq_true rfl) (Nat.le_of_ble_eq_true rfl) dX8_alternating_69
      · have c3 : v5_4.toInt < u1.toInt := Int32.lt_iff_toInt_lt.mp (iv_nle c1)
        have i4 : iv v5_4 0 39 := iv_Ll c3 iv5_4 hu1 (by decide)
        have i5 : iv u1 1 40 := iv_Lr c3 iv5_4 hu1 (by decide)
        refine lv_iload hx hb dX8_alternating_11 (lv_at hl 3 rfl) ?_
        refine lv_bipush (v := 40) hx hb dX8_alternating_13 (by decide) ?_
        refine lv_icmp_ge (tgt := 65) hx hb dX8_alternating_15 (by decide) (fun c9 => ?_) (fun c9 => ?_)
        · have c10 : 40 ≤ v5_4.toInt := Int32.le_iff_toInt_le.mp c9
          exact (iv_ce_ c10 (iv_k (x := 40) (k := 40) rfl) i4 (by decide)).elim
        · have c11 : v5_4.toInt < 40 := Int32.lt_iff_toInt_lt.mp (iv_nle c9)
          refine lv_aload_n hx hb dX8_alternating_18 rfl (lv_at hl 0 rfl) ?_
          refine t_getfd C h t_5 hu0 (by decide) wf_35 (v := .ref xq) k5_u0_0 fl_X8_11 dX8_alternating_19 ?_
          refine lv_iload hx hb dX8_alternating_22 (lv_at hl 3 rfl) ?_
          refine e_iald C h t_5 hxq (by decide) wf_36 k5_xq_R (iv_in i4 (by decide)) dX8_alternating_24 (fun z12 ez12 iz12 => ?_)
          have mz12 := congrArg Int32.toInt ez12
          have qz12_ := (rc_at hRC (j := v5_4.toInt.toNat) (i := v5_4.toInt) (by omega) (by omega)).1
          have pz12 : z12.toInt = PX Wf x y v5_4.toInt := by rw [ez12]; exact qz12_.1
          have bz12 : iv z12 0 1000002 := ⟨by omega, by omega⟩
          refine lv_i2l hx hb dX8_alternating_25 rfl (i_topL bz12 (fun w13 ew13 mw13 iw13 => ?_))
          refine lv_aload_n hx hb dX8_alternating_26 rfl (lv_at hl 0 rfl) ?_
          refine t_getfd C h t_5 hu0 (by decide) wf_35 (v := .ref yq) k5_u0_1 fl_X8_15 dX8_alternating_27 ?_
          refine lv_iload hx hb dX8_alternating_30 (lv_at hl 3 rfl) ?_
          refine e_iald C h t_5 hyq (by decide) wf_80 k5_yq_R (iv_in i4 (by decide)) dX8_alternating_32 (fun z14 ez14 iz14 => ?_)
          have mz14 := congrArg Int32.toInt ez14
          have qz14_ := (rc_at hRC (j := v5_4.toInt.toNat) (i := v5_4.toInt) (by omega) (by omega)).2
          have pz14 : z14.toInt = PY Wf x y v5_4.toInt := by rw [ez14]; exact qz14_.1
          have bz14 : iv z14 0 1000002 := ⟨by omega, by omega⟩
          refine lv_i2l hx hb dX8_alternating_33 rfl (i_topL bz14 (fun w15 ew15 mw15 iw15 => ?_))
          refine k_i (r_SN C h hl (host := "QuarterWalks") (As := [.long w13, .long w15]) (rest := []) (s_X10_timesX l D G b0 τ f_5 t_5 w13 w15 (by omega) (by omega)) mk_X10_times (by decide) w_807 w_808 ⟨Nat.le_of_ble_eq_true rfl, Nat.le_of_ble_eq_true rfl⟩ rfl (Nat.le_of_ble_eq_true rfl) ⟨Nat.le_of_ble_eq_true rfl, Nat.le_of_ble_eq_true rfl⟩ rfl dX8_alternating_34) h (fun r16 f17 H locs p18 h => ?_)
          obtain ⟨ir16, tf17, ogf17, x0r16⟩ := p18
          have egf17 := Fr.nil2 ogf17
          subst egf17
          rw [mw13, mw15] at x0r16
          refine lv_istore (lv' := [(5, .int r16), (0, .ref u0), (1, .int u1), (2, .long v5_2), (4, .int v5_4)]) hx hb dX8_alternating_37 hl (by decide) rfl (fun ls hl => ?_)
          refine lv_lload_n hx hb dX8_alternating_39 rfl (lv_at hl 3 rfl) ?_
          refine lv_iload hx hb dX8_alternating_40 (lv_at hl 4 rfl) ?_
          refine lv_iconst (v := 2) hx hb dX8_alternating_42 (by decide) ?_
          refine lv_irem hx hb dX8_alternating_43 (by decide) (i_topm (P := fun q_ => q_ = Int32.toInt v5_4 % 2) (iv_remx (k := 2) (iv_w i4 (by decide) : iv _ 0 39) rfl (by decide)) (fun z19 ez19 mz19 iz19 => ?_))
          refine lv_if_ne (tgt := 53) hx hb dX8_alternating_44 (by decide) (fun c20 => ?_) (fun c20 => ?_)
          · have c21 : z19.toInt ≠ 0 := fun z_ => c20 (Int32.toInt_inj.mp z_)
            have i22 : iv z19 1 1 := iv_Nl c21 iz19 (by decide)
            refine lv_iload hx hb dX8_alternating_53 (lv_at hl 0 rfl) ?_
            refine lv_ineg hx hb dX8_alternating_55 (i_topm (P := fun q_ => q_ = -Int32.toInt r16) (iv_negm ir16 (by decide)) (fun z25 ez25 mz25 iz25 => ?_))
            refine lv_i2l hx hb dX8_alternating_56 rfl (i_topL iz25 (fun w26 ew26 mw26 iw26 => ?_))
            refine lv_ladd hx hb dX8_alternating_57 (lv_topl (fun w27 ew27 => ?_))
            have mw27 := L_add ew27 (by omega)
            refine lv_lstore_n (lv' := [(2, .long w27), (5, .int r16), (0, .ref u0), (1, .int u1), (4, .int v5_4)]) hx hb dX8_alternating_58 rfl hl (by decide) rfl (fun ls hl => ?_)
            refine i_inc hx hb dX8_alternating_59 hl (k := 4) rfl i4 rfl (lo := 1) (hi := 40) (by decide) (by decide) (lv' := fun v => [(4, .int v), (2, .long w27), (5, .int r16), (0, .ref u0), (1, .int u1)]) (fun _ => rfl) (fun z28 ls ez28 mz28 iz28 hl => ?_)
            refine lv_goto (tgt := 5) hx hb dX8_alternating_62 (by decide) ?_
            exact ih5 ls f_5 H locs w27 z28 (show 40 - z28.toInt < _ by omega) (lv_cons hl 3 rfl (lv_cons hl 4 rfl (lv_cons hl 1 rfl (lv_cons hl 0 rfl (lv_nil hl))))) h t_5 o_5 (iv_w iz28 (by decide)) k5_u0_0 k5_u0_1 k5_xq_R k5_yq_R (show -1000002 * z28.toInt ≤ w27.toInt ∧ w27.toInt ≤ 1000002 * z28.toInt by omega) (show w27.toInt = alt Wf x y (Int.toNat z28.toInt) from (by rw [alt_s (i := v5_4.toInt) (by omega) (by omega), ← hv5_1, ← pz12, ← pz14]; split <;> omega)) (show z28.toInt ≤ u1.toInt by omega)
          · have c23 : z19.toInt = 0 := congrArg Int32.toInt c20
            have i24 : iv z19 0 0 := iv_Q c23 iz19 (iv_k (x := 0) (k := 0) rfl) (by decide)
            refine lv_iload hx hb dX8_alternating_47 (lv_at hl 0 rfl) ?_
            refine lv_i2l hx hb dX8_alternating_49 rfl (i_topL ir16 (fun w29 ew29 mw29 iw29 => ?_))
            refine lv_goto (tgt := 57) hx hb dX8_alternating_50 (by decide) ?_
            refine lv_ladd hx hb dX8_alternating_57 (lv_topl (fun w30 ew30 => ?_))
            have mw30 := L_add ew30 (by omega)
            refine lv_lstore_n (lv' := [(2, .long w30), (5, .int r16), (0, .ref u0), (1, .int u1), (4, .int v5_4)]) hx hb dX8_alternating_58 rfl hl (by decide) rfl (fun ls hl => ?_)
            refine i_inc hx hb dX8_alternating_59 hl (k := 4) rfl i4 rfl (lo := 1) (hi := 40) (by decide) (by decide) (lv' := fun v => [(4, .int v), (2, .long w30), (5, .int r16), (0, .ref u0), (1, .int u1)]) (fun _ => rfl) (fun z31 ls ez31 mz31 iz31 hl => ?_)
            refine lv_goto (tgt := 5) hx hb dX8_alternating_62 (by decide) ?_
            exact ih5 ls f_5 H locs w30 z31 (show 40 - z31.toInt < _ by omega) (lv_cons hl 3 rfl (lv_cons hl 4 rfl (lv_cons hl 1 rfl (lv_cons hl 0 rfl (lv_nil hl))))) h t_5 o_5 (iv_w iz31 (by decide)) k5_u0_0 k5_u0_1 k5_xq_R k5_yq_R (show -1000002 * z31.toInt ≤ w30.toInt ∧ w30.toInt ≤ 1000002 * z31.toInt by omega) (show w30.toInt = alt Wf x y (Int.toNat z31.toInt) from (by rw [alt_s (i := v5_4.toInt) (by omega) (by omega), ← hv5_1, ← pz12, ← pz14]; split <;> omega)) (show z31.toInt ≤ u1.toInt by omega)
  refine lv_lconst (v := 0) hx hb dX8_alternating_0 (by decide) ?_
  refine lv_lstore_n (lv' := [(2, .long 0), (0, .ref u0), (1, .int u1)]) hx hb dX8_alternating_1 rfl hl (by decide) rfl (fun ls hl => ?_)
  refine lv_iconst (v := 0) hx hb dX8_alternating_2 (by decide) ?_
  refine lv_istore (lv' := [(4, .int 0), (2, .long 0), (0, .ref u0), (1, .int u1)]) hx hb dX8_alternating_3 hl (by decide) rfl (fun ls hl => ?_)
  exact L5 41 ls f s.heap [] 0 0 (by decide) (lv_cons hl 2 rfl (lv_cons hl 3 rfl (lv_cons hl 1 rfl (lv_cons hl 0 rfl (lv_nil hl))))) h t o ⟨by decide, by decide⟩ k_u0_0 k_u0_1 hRxq hRyq (show -1000002 * 0 ≤ 0 ∧ 0 ≤ 1000002 * 0 by omega) (show 0 = alt Wf x y (Int.toNat 0) from (by rfl)) (show 0 ≤ u1.toInt by omega)
