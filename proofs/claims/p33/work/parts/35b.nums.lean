
/-! ===== numbers modulo the prime ===== -/
theorem L_mulp {a b z : Int64} {A B : Int} (e : z = a * b) (ha : 0 ≤ a.toInt ∧ a.toInt ≤ A) (hb : 0 ≤ b.toInt ∧ b.toInt ≤ B) (h : A * B ≤ 9223372036854775807) : z.toInt = a.toInt * b.toInt ∧ 0 ≤ z.toInt ∧ z.toInt ≤ A * B := by
  have q1 : 0 ≤ a.toInt * b.toInt := Int.mul_nonneg ha.1 hb.1
  have q2 : a.toInt * b.toInt ≤ A * B := Int.mul_le_mul ha.2 hb.2 hb.1 (by omega)
  have e1 : z.toInt = a.toInt * b.toInt := by
    rw [e, Int64.toInt_mul]
    exact Int.bmod_eq_of_le (by omega) (by omega)
  exact ⟨e1, by omega, by omega⟩
theorem L_add {a b z : Int64} (e : z = a + b) (h : -9223372036854775808 ≤ a.toInt + b.toInt ∧ a.toInt + b.toInt ≤ 9223372036854775807) : z.toInt = a.toInt + b.toInt := by
  rw [e, Int64.toInt_add]
  exact Int.bmod_eq_of_le (by omega) (by omega)
theorem L_sub {a b z : Int64} (e : z = a - b) (h : -9223372036854775808 ≤ a.toInt - b.toInt ∧ a.toInt - b.toInt ≤ 9223372036854775807) : z.toInt = a.toInt - b.toInt := by
  rw [e, Int64.toInt_sub]
  exact Int.bmod_eq_of_le (by omega) (by omega)
theorem L_rem {x z : Int64} (e : z = x - x / 1000003 * 1000003) (h : 0 ≤ x.toInt) : z.toInt = x.toInt % 1000003 := by
  rw [e, lrem_t, show (1000003 : Int64).toInt = 1000003 from rfl, Int.tmod_eq_emod_of_nonneg h]
theorem L_l2i {x : Int64} {z : Int32} (e : z = x.toInt32) (h : -2147483648 ≤ x.toInt ∧ x.toInt ≤ 2147483647) : z.toInt = x.toInt := by
  rw [e, Int64.toInt_toInt32, iv_bm (by omega) (by omega)]
/-- the residue, of what may be below 0 -/
theorem res_p {x w : Int64} {z : Int32} (e1 : w = x - x / 1000003 * 1000003) (h : 0 ≤ w.toInt) (e2 : z = w.toInt32) : z.toInt = x.toInt % 1000003 := by
  have t := lrem_t x 1000003
  rw [← e1, show (1000003 : Int64).toInt = 1000003 from rfl] at t
  have b1 := Int.lt_tmod_of_pos x.toInt (show (0 : Int) < 1000003 by decide)
  have b2 := Int.tmod_lt_of_pos x.toInt (show (0 : Int) < 1000003 by decide)
  have hz := L_l2i e2 (by omega)
  have q := Int.tmod_add_mul_tdiv x.toInt 1000003
  have c : x.toInt % 1000003 = (x.toInt.tmod 1000003) % 1000003 := by
    conv => lhs; rw [← q]
    exact Int.add_mul_emod_self_left _ _ _
  rw [c, hz, t]
  exact (Int.emod_eq_of_lt (by omega) (by omega)).symm
theorem res_n {x w w2 : Int64} {z : Int32} (e1 : w = x - x / 1000003 * 1000003) (h : w.toInt < 0) (e3 : w2 = w + 1000003) (e2 : z = w2.toInt32) : z.toInt = x.toInt % 1000003 := by
  have t := lrem_t x 1000003
  rw [← e1, show (1000003 : Int64).toInt = 1000003 from rfl] at t
  have b1 := Int.lt_tmod_of_pos x.toInt (show (0 : Int) < 1000003 by decide)
  have b2 := Int.tmod_lt_of_pos x.toInt (show (0 : Int) < 1000003 by decide)
  have n1 : (1000003 : Int64).toInt = 1000003 := rfl
  have hw := L_add e3 (by omega)
  have hz := L_l2i e2 (by omega)
  have q := Int.tmod_add_mul_tdiv x.toInt 1000003
  have c : x.toInt % 1000003 = (x.toInt.tmod 1000003 + 1000003) % 1000003 := by
    rw [Int.add_emod_right]
    conv => lhs; rw [← q]
    exact Int.add_mul_emod_self_left _ _ _
  rw [c, hz, hw, t, n1]
  exact (Int.emod_eq_of_lt (by omega) (by omega)).symm
/-- square and multiply -/
def sqm : Nat → Int → Int → Int → Int
  | 0, p, _, _ => p
  | n + 1, p, q, k => if k ≤ 0 then p else sqm n (if k % 2 = 1 then p * q % 1000003 else p) (q * q % 1000003) (k / 2)
def pinv (v : Int) : Int := sqm 40 1 v 1000001
theorem sqm_0 {n : Nat} {p q k : Int} (h : k ≤ 0) : sqm n p q k = p := by
  cases n with
  | zero => rfl
  | succ n => rw [sqm, if_pos h]
/-- how many rounds are left doesn't tell, when there are enough -/
theorem sqm_f : ∀ (n m : Nat) (p q k : Int), k < 2 ^ n → k < 2 ^ m → sqm n p q k = sqm m p q k
  | 0, m, p, q, k, h, _ => by rw [sqm_0 (n := 0) (by omega), sqm_0 (n := m) (by omega)]
  | n + 1, 0, p, q, k, _, h => by rw [sqm_0 (n := n + 1) (by omega), sqm_0 (n := 0) (by omega)]
  | n + 1, m + 1, p, q, k, h1, h2 => by
    rw [sqm, sqm]
    by_cases c : k ≤ 0
    · rw [if_pos c, if_pos c]
    · rw [if_neg c, if_neg c]
      have e1 : (2 : Int) ^ (n + 1) = 2 ^ n * 2 := Int.pow_succ 2 n
      have e2 : (2 : Int) ^ (m + 1) = 2 ^ m * 2 := Int.pow_succ 2 m
      exact sqm_f n m _ _ _ (by omega) (by omega)
theorem sqm_s {p q k : Int} (h : 0 < k) (h2 : k ≤ 1000001) : sqm 40 p q k = sqm 40 (if k % 2 = 1 then p * q % 1000003 else p) (q * q % 1000003) (k / 2) := by
  rw [sqm, if_neg (by omega)]
  exact sqm_f 39 40 _ _ _ (by have : (2 : Int) ^ 39 = 549755813888 := by decide
                              omega) (by have : (2 : Int) ^ 40 = 1099511627776 := by decide
                                         omega)
theorem and1_m {x z : Int32} (e : z = x &&& 1) (h : 0 ≤ x.toInt) : z.toInt = x.toInt % 2 := by
  obtain ⟨j, hj, ej⟩ := pk_andE x (m := 1) 1 (by decide)
  have e1 : (x &&& 1).toBitVec.toNat = x.toBitVec.toNat % 2 := by
    show (x.toBitVec &&& 1#32).toNat = _
    rw [BitVec.toNat_and]
    exact Nat.and_two_pow_sub_one_eq_mod x.toBitVec.toNat 1
  have h1 : x.toInt = (x.toBitVec.toNat : Int) := by
    have := Int32.toInt_lt x
    show x.toBitVec.toInt = _
    rw [BitVec.toInt_eq_toNat_cond]
    split
    · rfl
    · next c =>
      have h' : (0 : Int) ≤ x.toBitVec.toInt := h
      rw [BitVec.toInt_eq_toNat_cond, if_neg c] at h'
      have := x.toBitVec.isLt
      omega
  have h2 : z.toInt = (z.toBitVec.toNat : Int) := by
    rw [e]
    show (x &&& 1).toBitVec.toInt = _
    rw [BitVec.toInt_eq_toNat_cond, if_pos (by rw [e1]; omega)]
  rw [h2, h1, e, e1]
  omega
def mx (a b c v : Int) : Int := (a * v + b + c * pinv v) % 1000003
def quo (o u old : Int) : Int := if o = 0 ∨ u = 0 then -1 else o * pinv (u * old % 1000003) % 1000003
def tX (W : Int → Int) (x y : Int) : Int := quo (mx (W 7) (W 6) (W 5) y) (mx (W 1) (W 2) (W 3) y) x
def tY (W : Int → Int) (x y : Int) : Int := quo (mx (W 3) (W 4) (W 5) x) (mx (W 1) (W 0) (W 7) x) y
def tw_ (W : Int → Int) (x y wh : Int) : Int := if wh = 0 then tX W x y else tY W x y
def ker (W : Int → Int) (x y : Int) : Int := (mx (W 1) (W 2) (W 3) y * x % 1000003 + mx (W 7) (W 6) (W 5) y * pinv x % 1000003 + mx (W 0) 0 (W 4) y) % 1000003
theorem mx_iv (a b c v : Int) : 0 ≤ mx a b c v ∧ mx a b c v ≤ 1000002 := by unfold mx; omega
/-- v to the d -/
def byf (v d : Int) : Int := if d = 0 then 1 else if 0 < d then v else pinv v
def knf (W : Int → Int) (x y : Int) : Nat → Int
  | 0 => 0
  | n + 1 => knf W x y n + W n * byf x (ddx n) % 1000003 * byf y (ddy n) % 1000003
def ptf (W : Int → Int) (wh pw v : Int) : Nat → Int
  | 0 => 0
  | n + 1 => if (if wh = 0 then ddx n else ddy n) = pw then ptf W wh pw v n + W n * byf v (if wh = 0 then ddy n else ddx n) % 1000003 else ptf W wh pw v n
theorem knf_s {W : Int → Int} {x y i z : Int} (h : 0 ≤ i) (hz : z = i + 1) : knf W x y z.toNat = knf W x y i.toNat + W i * byf x (ddx i) % 1000003 * byf y (ddy i) % 1000003 := by
  rw [show z.toNat = i.toNat + 1 by omega, knf, show ((i.toNat : Nat) : Int) = i by omega]
theorem ptf_s {W : Int → Int} {wh pw v i z : Int} (h : 0 ≤ i) (hz : z = i + 1) : ptf W wh pw v z.toNat = if (if wh = 0 then ddx i else ddy i) = pw then ptf W wh pw v i.toNat + W i * byf v (if wh = 0 then ddy i else ddx i) % 1000003 else ptf W wh pw v i.toNat := by
  rw [show z.toNat = i.toNat + 1 by omega, ptf, show ((i.toNat : Nat) : Int) = i by omega]
/-! alike modulo the prime -/
theorem m_mul (a b : Int) : (a % 1000003 * b) % 1000003 = a * b % 1000003 := by
  rw [Int.mul_emod, Int.emod_emod_of_dvd _ (Int.dvd_refl _), ← Int.mul_emod]
theorem m_c {a b : Int} (k : Int) (h : a = b + 1000003 * k) : a % 1000003 = b % 1000003 := by
  rw [h]; exact Int.add_mul_emod_self_left _ _ _
theorem m_d (a : Int) : a % 1000003 = a + 1000003 * (-(a / 1000003)) := by
  have := Int.emod_add_mul_ediv a 1000003
  rw [Int.mul_neg]
  omega
theorem ptf_0p (W : Int → Int) (v : Int) : ptf W 0 1 v 8 % 1000003 = mx (W 1) (W 2) (W 3) v := by
  have e : ptf W 0 1 v 8 = W 1 * v % 1000003 + W 2 % 1000003 + W 3 * pinv v % 1000003 := by
    simp [ptf, ddx, ddy, byf]
  rw [e]; unfold mx
  omega
theorem ptf_0n (W : Int → Int) (v : Int) : ptf W 0 (-1) v 8 % 1000003 = mx (W 7) (W 6) (W 5) v := by
  have e : ptf W 0 (-1) v 8 = W 5 * pinv v % 1000003 + W 6 % 1000003 + W 7 * v % 1000003 := by
    simp [ptf, ddx, ddy, byf]
  rw [e]; unfold mx
  omega
theorem ptf_1p (W : Int → Int) (v : Int) : ptf W 1 1 v 8 % 1000003 = mx (W 1) (W 0) (W 7) v := by
  have e : ptf W 1 1 v 8 = W 0 % 1000003 + W 1 * v % 1000003 + W 7 * pinv v % 1000003 := by
    simp [ptf, ddx, ddy, byf]
  rw [e]; unfold mx
  omega
theorem ptf_1n (W : Int → Int) (v : Int) : ptf W 1 (-1) v 8 % 1000003 = mx (W 3) (W 4) (W 5) v := by
  have e : ptf W 1 (-1) v 8 = W 3 * v % 1000003 + W 4 % 1000003 + W 5 * pinv v % 1000003 := by
    simp [ptf, ddx, ddy, byf]
  rw [e]; unfold mx
  omega
theorem knf_8 (W : Int → Int) (x y : Int) : knf W x y 8 % 1000003 = ker W x y := by
  have e : knf W x y 8 = W 0 * 1 % 1000003 * y % 1000003 + W 1 * x % 1000003 * y % 1000003 + W 2 * x % 1000003 * 1 % 1000003 + W 3 * x % 1000003 * pinv y % 1000003 + W 4 * 1 % 1000003 * pinv y % 1000003 + W 5 * pinv x % 1000003 * pinv y % 1000003 + W 6 * pinv x % 1000003 * 1 % 1000003 + W 7 * pinv x % 1000003 * y % 1000003 := by
    simp [knf, ddx, ddy, byf]
  rw [e]
  unfold ker mx
  rw [m_mul, m_mul, m_mul, m_mul, m_mul, m_mul, m_mul, m_mul, m_mul, m_mul]
  generalize pinv x = X
  generalize pinv y = Y
  simp only [Int.add_mul, Int.mul_one, Int.add_zero]
  have a1 : W 1 * y * x = W 1 * x * y := Int.mul_right_comm _ _ _
  have a3 : W 3 * Y * x = W 3 * x * Y := Int.mul_right_comm _ _ _
  have a5 : W 5 * Y * X = W 5 * X * Y := Int.mul_right_comm _ _ _
  have a7 : W 7 * y * X = W 7 * X * y := Int.mul_right_comm _ _ _
  rw [a1, a3, a5, a7]
  omega
theorem ker_c {W V : Int → Int} (h : ∀ k : Int, 0 ≤ k → k < 8 → W k = V k) (x y : Int) : ker W x y = ker V x y := by
  unfold ker
  rw [h 0 (by decide) (by decide), h 1 (by decide) (by decide), h 2 (by decide) (by decide), h 3 (by decide) (by decide), h 4 (by decide) (by decide), h 5 (by decide) (by decide), h 6 (by decide) (by decide), h 7 (by decide) (by decide)]
theorem tX_c {W V : Int → Int} (h : ∀ k : Int, 0 ≤ k → k < 8 → W k = V k) (x y : Int) : tX W x y = tX V x y := by
  unfold tX
  rw [h 1 (by decide) (by decide), h 2 (by decide) (by decide), h 3 (by decide) (by decide), h 5 (by decide) (by decide), h 6 (by decide) (by decide), h 7 (by decide) (by decide)]
theorem tY_c {W V : Int → Int} (h : ∀ k : Int, 0 ≤ k → k < 8 → W k = V k) (x y : Int) : tY W x y = tY V x y := by
  unfold tY
  rw [h 0 (by decide) (by decide), h 1 (by decide) (by decide), h 3 (by decide) (by decide), h 4 (by decide) (by decide), h 5 (by decide) (by decide), h 7 (by decide) (by decide)]
theorem wf_bf {w bk : Nat → Int32} {u : Int} (hw : ∀ k : Nat, k < 8 → w k = bk (10 * u.toNat + k)) (hu : 0 ≤ u) : ∀ k : Int, 0 ≤ k → k < 8 → (fun k : Int => (w k.toNat).toInt) k = (fun k : Int => (bk (10 * u + k).toNat).toInt) k := fun k h0 h8 => by
  show (w k.toNat).toInt = (bk (10 * u + k).toNat).toInt
  rw [hw k.toNat (by omega), show 10 * u.toNat + k.toNat = (10 * u + k).toNat by omega]
abbrev rm_s_X10_isUnitX : Room := { frames := 1, cells := 0, slots := 0, locals := 22 }
set_option maxRecDepth 100000 in
set_option maxHeartbeats 4000000 in
theorem s_X10_isUnitX (l : Launch) (D : va_G) (G : Nat → Nat) (b0 : Nat) (τ : Nat → Nat) (f : hM) (t : TI G 9 τ f) (u0 : Int32) (hu0 : iv u0 (-2147483648) 2147483647) : mI l yX10_isUnit cX10_isUnit 1 (.boolean) rm_s_X10_isUnitX D G b0 f [.int u0] (fun r f1 => iv r 0 1 ∧ TI G 9 τ f1 ∧ Fr [] τ f f1 ∧ (r.toInt ≠ 0 → iv u0 1 1000002) ∧ (r.toInt = 0 → u0.toInt < 1 ∨ 1000002 < u0.toInt)) := by
  refine met2 (own := RX10) (by decide) rfl (Nat.le_of_ble_eq_true rfl) ?_
  intro p e s m args below meth c ls Q hQ C hr hini hl h
  have hl : lv_has ls 1 [(0, .int u0)] := hl
  obtain ⟨hx, hb, hml, hown, hts, hE0, hlk⟩ := id C
  have o := Fr.rf [] τ f
  refine lv_iload_n hx hb dX10_isUnit_0 rfl (lv_at hl 0 rfl) ?_
  refine lv_iconst (v := 1) hx hb dX10_isUnit_1 (by decide) ?_
  refine lv_ldc (v := 1000002) hx hb hown (hts _ w_855) dX10_isUnit_2 ?_
  refine k_i (r_S C h hl (As := [.int u0, .int 1, .int 1000002]) (rest := []) (s_X10_within l D G b0 τ f t u0 hu0 1 (iv_w (iv_k (x := 1) (k := 1) rfl) (by decide)) 1000002 (iv_w (iv_k (x := 1000002) (k := 1000002) rfl) (by decide))) mk_X10_within w_425 w_426 w_427 ⟨Nat.le_of_ble_eq_true rfl, Nat.le_of_ble_eq_true rfl⟩ rfl (Nat.le_of_ble_eq_true rfl) ⟨Nat.le_of_ble_eq_true rfl, Nat.le_of_ble_eq_true rfl⟩ rfl dX10_isUnit_4) h (fun r1 f2 H locs p3 h => ?_)
  have n4 : (1 : Int32).toInt = 1 := rfl
  have n5 : (1000002 : Int32).toInt = 1000002 := rfl
  obtain ⟨ir1, tf2, ogf2, cnr1, czr1⟩ := p3
  have egf2 := Fr.nil2 ogf2
  subst egf2
  exact u_zret C h hr hQ ir1 (⟨ir1, t, o, (by intro h_; have h9_ := cnr1 h_; omega), (by intro h_; have h9_ := czr1 h_; omega)⟩) (Nat.le_of_ble_eq_true rfl) (Nat.le_of_ble_eq_true rfl) dX10_isUnit_7
abbrev rm_s_X10_residueX : Room := { frames := 0, cells := 0, slots := 0, locals := 0 }
set_option maxRecDepth 100000 in
set_option maxHeartbeats 4000000 in
theorem s_X10_residueX (l : Launch) (D : va_G) (G : Nat → Nat) (b0 : Nat) (τ : Nat → Nat) (f : hM) (t : TI G 9 τ f) (u0 : Int64) : mI l yX10_residue cX10_residue 4 (.int) rm_s_X10_residueX D G b0 f [.long u0] (fun r f1 => iv r 0 1000002 ∧ TI G 9 τ f1 ∧ Fr [] τ f f1 ∧ (r.toInt = u0.toInt % 1000003)) := by
  refine met2 (own := RX10) (by decide) rfl (Nat.le_of_ble_eq_true rfl) ?_
  intro p e s m args below meth c ls Q hQ C hr hini hl h
  have hl : lv_has ls 4 [(0, .long u0)] := hl
  obtain ⟨hx, hb, hml, hown, hts, hE0, hlk⟩ := id C
  have o := Fr.rf [] τ f
  refine lv_lload_n hx hb dX10_residue_0 rfl (lv_at hl 0 rfl) ?_
  refine lv_ldc2 (v := 1000003) hx hb hown (hts _ w_743) dX10_residue_1 ?_
  refine lv_lrem hx hb dX10_residue_4 (by decide) (i_topl (lrem_iv (k := 1000003) rfl (by decide) (lo := -1000002) (hi := 1000002) (by decide)) (fun w1 ew1 iw1 => ?_))
  refine lv_lstore_n (lv' := [(2, .long w1), (0, .long u0)]) hx hb dX10_residue_5 rfl hl (by decide) rfl (fun ls hl => ?_)
  refine lv_lload_n hx hb dX10_residue_6 rfl (lv_at hl 0 rfl) ?_
  refine lv_lconst (v := 0) hx hb dX10_residue_7 (by decide) ?_
  refine W.lcmp hx hb dX10_residue_8 (i_topc (fun z2 ez2 mz2 iz2 => ?_))
  refine lv_if_ge (tgt := 20) hx hb dX10_residue_9 (by decide) (fun c3 => ?_) (fun c3 => ?_)
  · have c4 : 0 ≤ z2.toInt := Int32.le_iff_toInt_le.mp c3
    have i5 : iv z2 0 1 := iv_Er c4 (iv_k (x := 0) (k := 0) rfl) iz2 (by decide)
    refine lv_lload_n hx hb dX10_residue_20 rfl (lv_at hl 0 rfl) ?_
    refine lv_l2i hx hb dX10_residue_21 rfl (i_top (iv_l2i iw1 (by decide)) (fun z8 ez8 iz8 => ?_))
    have mr_ : z8.toInt = u0.toInt % 1000003 := res_p ew1 (by have n_ : (0 : Int64).toInt = 0 := rfl; omega) ez8
    exact u_iret C h hr hQ (⟨(show iv z8 0 1000002 from by omega), t, o, mr_⟩) (Nat.le_of_ble_eq_true rfl) (Nat.le_of_ble_eq_true rfl) dX10_residue_22
  · have c6 : z2.toInt < 0 := Int32.lt_iff_toInt_lt.mp (iv_nle c3)
    have i7 : iv z2 (-1) (-1) := iv_Ll c6 iz2 (iv_k (x := 0) (k := 0) rfl) (by decide)
    refine lv_lload_n hx hb dX10_residue_12 rfl (lv_at hl 0 rfl) ?_
    refine lv_ldc2 (v := 1000003) hx hb hown (hts _ w_743) dX10_residue_13 ?_
    refine lv_ladd hx hb dX10_residue_16 (lv_topl (fun w9 ew9 => ?_))
    refine lv_goto (tgt := 21) hx hb dX10_residue_17 (by decide) ?_
    refine lv_l2i hx hb dX10_residue_21 rfl (i_top (iv_any _) (fun z10 ez10 iz10 => ?_))
    have mr_ : z10.toInt = u0.toInt % 1000003 := res_n ew1 (by have n_ : (0 : Int64).toInt = 0 := rfl; omega) ew9 ez10
    exact u_iret C h hr hQ (⟨(show iv z10 0 1000002 from by omega), t, o, mr_⟩) (Nat.le_of_ble_eq_true rfl) (Nat.le_of_ble_eq_true rfl) dX10_residue_22
abbrev rm_s_X10_timesX : Room := { frames := 0, cells := 0, slots := 0, locals := 0 }
set_option maxRecDepth 100000 in
set_option maxHeartbeats 4000000 in
theorem s_X10_timesX (l : Launch) (D : va_G) (G : Nat → Nat) (b0 : Nat) (τ : Nat → Nat) (f : hM) (t : TI G 9 τ f) (u0 : Int64) (u1 : Int64) (hr0 : 0 ≤ u0.toInt ∧ u0.toInt ≤ 1000002) (hr1 : 0 ≤ u1.toInt ∧ u1.toInt ≤ 1000002) : mI l yX10_times cX10_times 4 (.int) rm_s_X10_timesX D G b0 f [.long u0, .long u1] (fun r f1 => iv r 0 1000002 ∧ TI G 9 τ f1 ∧ Fr [] τ f f1 ∧ (r.toInt = u0.toInt * u1.toInt % 1000003)) := by
  refine met2 (own := RX10) (by decide) rfl (Nat.le_of_ble_eq_true rfl) ?_
  intro p e s m args below meth c ls Q hQ C hr hini hl h
  have hl : lv_has ls 4 [(0, .long u0), (2, .long u1)] := hl
  obtain ⟨hx, hb, hml, hown, hts, hE0, hlk⟩ := id C
  have o := Fr.rf [] τ f
  refine lv_lload_n hx hb dX10_times_0 rfl (lv_at hl 0 rfl) ?_
  refine lv_lload_n hx hb dX10_times_1 rfl (lv_at hl 1 rfl) ?_
  refine lv_lmul hx hb dX10_times_2 (lv_topl (fun w1 ew1 => ?_))
  obtain ⟨mw1, bw1⟩ := L_mulp (A := 1000002) (B := 1000002) ew1 ⟨by omega, by omega⟩ ⟨by omega, by omega⟩ (by decide)
  refine lv_ldc2 (v := 1000003) hx hb hown (hts _ w_743) dX10_times_3 ?_
  refine lv_lrem hx hb dX10_times_6 (by decide) (i_topl (lrem_iv (k := 1000003) rfl (by decide) (lo := -1000002) (hi := 1000002) (by decide)) (fun w2 ew2 iw2 => ?_))
  have mw2 := L_rem ew2 (by omega)
  refine lv_l2i hx hb dX10_times_7 rfl (i_top (iv_l2i iw2 (by decide)) (fun z3 ez3 iz3 => ?_))
  have mz3 := L_l2i ez3 (by omega)
  exact u_iret C h hr hQ (⟨(show iv z3 0 1000002 from by omega), t, o, (by rw [mz3, mw2, mw1])⟩) (Nat.le_of_ble_eq_true rfl) (Nat.le_of_ble_eq_true rfl) dX10_times_8
abbrev rm_s_X10_inverseX : Room := { frames := 0, cells := 0, slots := 0, locals := 0 }
set_option maxRecDepth 100000 in
set_option maxHeartbeats 4000000 in
theorem s_X10_inverseX (l : Launch) (D : va_G) (G : Nat → Nat) (b0 : Nat) (τ : Nat → Nat) (f : hM) (t : TI G 9 τ f) (u0 : Int32) (hu0 : iv u0 0 1000002) : mI l yX10_inverse cX10_inverse 6 (.int) rm_s_X10_inverseX D G b0 f [.int u0] (fun r f1 => iv r 0 1000002 ∧ TI G 9 τ f1 ∧ Fr [] τ f f1 ∧ (r.toInt = pinv u0.toInt)) := by
  refine met2 (own := RX10) (by decide) rfl (Nat.le_of_ble_eq_true rfl) ?_
  intro p e s m args below meth c ls Q hQ C hr hini hl h
  have hl : lv_has ls 6 [(0, .int u0)] := hl
  obtain ⟨hx, hb, hml, hown, hts, hE0, hlk⟩ := id C
  have o := Fr.rf [] τ f
  have L10 : ∀ (n10 : Nat) (ls : Array Slot) (f_10 : hM) (H : Heap) (locs : List Loc) (v10_1 : Int64) (v10_3 : Int64) (v10_5 : Int32), v10_5.toInt < (n10 : Int) → lv_has ls 6 [(1, .long v10_1), (3, .long v10_3), (5, .int v10_5)] → hw D b0 s.heap f_10 H locs → TI G 9 τ f_10 → Fr [] τ f f_10 → ivl v10_1 (-1000002) 1000002 → ivl v10_3 (-1000002) 1000002 → iv v10_5 0 1000001 → 0 ≤ v10_1.toInt ∧ v10_1.toInt ≤ 1000002 ∧ 0 ≤ v10_3.toInt ∧ v10_3.toInt ≤ 1000002 → (sqm 40 v10_1.toInt v10_3.toInt v10_5.toInt = pinv u0.toInt) → W p l e rm_s_X10_inverseX s m args below meth c H locs 0 0 Q (F0 m 10 ls []) := by
    intro n10
    induction n10 with
    | zero => intro ls f_10 H locs v10_1 v10_3 v10_5 hm10 hl h t_10 o_10 iv10_1 iv10_3 iv10_5 hv10_0 hv10_1; exact absurd hm10 (by omega)
    | succ n10 ih10 =>
      intro ls f_10 H locs v10_1 v10_3 v10_5 hm10 hl h t_10 o_10 iv10_1 iv10_3 iv10_5 hv10_0 hv10_1
      refine lv_iload hx hb dX10_inverse_10 (lv_at hl 2 rfl) ?_
      refine lv_if_le (tgt := 47) hx hb dX10_inverse_12 (by decide) (fun c1 => ?_) (fun c1 => ?_)
      · have c2 : v10_5.toInt ≤ 0 := Int32.le_iff_toInt_le.mp c1
        have i3 : iv v10_5 0 0 := iv_El c2 iv10_5 (iv_k (x := 0) (k := 0) rfl) (by decide)
        refine lv_lload_n hx hb dX10_inverse_47 rfl (lv_at hl 0 rfl) ?_
        refine lv_l2i hx hb dX10_inverse_48 rfl (i_top (iv_l2i iv10_1 (by decide)) (fun z6 ez6 iz6 => ?_))
        have mz6 := L_l2i ez6 (by omega)
        exact u_iret C h hr hQ (⟨(show iv z6 0 1000002 from by omega), t_10, o_10, (by rw [mz6, ← hv10_1, sqm_0 (by omega)])⟩) (Nat.le_of_ble_eq_true rfl) (Nat.le_of_ble_eq_true rfl) dX10_inverse_49
      · have c4 : 0 < v10_5.toInt := Int32.lt_iff_toInt_lt.mp (iv_nle c1)
        have i5 : iv v10_5 1 1000001 := iv_Lr c4 (iv_k (x := 0) (k := 0) rfl) iv10_5 (by decide)
        refine lv_iload hx hb dX10_inverse_15 (lv_at hl 2 rfl) ?_
        refine lv_iconst (v := 1) hx hb dX10_inverse_17 (by decide) ?_
        refine lv_iand hx hb dX10_inverse_18 (i_top (iv_and (k := 1) rfl (by decide)) (fun z7 ez7 iz7 => ?_))
        have mmz7 := and1_m ez7 (by omega)
        refine lv_if_eq (tgt := 30) hx hb dX10_inverse_19 (by decide) (fun c8 => ?_) (fun c8 => ?_)
        · have c9 : z7.toInt = 0 := congrArg Int32.toInt c8
          have i10 : iv z7 0 0 := iv_Q c9 iz7 (iv_k (x := 0) (k := 0) rfl) (by decide)
          refine lv_lload_n hx hb dX10_inverse_30 rfl (lv_at hl 1 rfl) ?_
          refine lv_lload_n hx hb dX10_inverse_31 rfl (lv_at hl 1 rfl) ?_
          refine lv_lmul hx hb dX10_inverse_32 (lv_topl (fun w13 ew13 => ?_))
          obtain ⟨mw13, bw13⟩ := L_mulp (A := 1000002) (B := 1000002) ew13 ⟨by omega, by omega⟩ ⟨by omega, by omega⟩ (by decide)
          refine lv_ldc2 (v := 1000003) hx hb hown (hts _ w_743) dX10_inverse_33 ?_
          refine lv_lrem hx hb dX10_inverse_36 (by decide) (i_topl (lrem_iv (k := 1000003) rfl (by decide) (lo := -1000002) (hi := 1000002) (by decide)) (fun w14 ew14 iw14 => ?_))
          have mw14 := L_rem ew14 (by omega)
          refine lv_lstore_n (lv' := [(3, .long w14), (1, .long v10_1), (5, .int v10_5)]) hx hb dX10_inverse_37 rfl hl (by decide) rfl (fun ls hl => ?_)
          refine lv_iload hx hb dX10_inverse_38 (lv_at hl 2 rfl) ?_
          refine lv_iconst (v := 1) hx hb dX10_inverse_40 (by decide) ?_
          refine lv_ishr hx hb dX10_inverse_41 (i_topm (P := fun q_ => q_ = Int32.toInt v10_5 / 2) (iv_shr1 i5 (lo := 0) (hi := 500000) (by decide)) (fun z15 ez15 mz15 iz15 => ?_))
          refine lv_istore (lv' := [(5, .int z15), (3, .long w14), (1, .long v10_1)]) hx hb dX10_inverse_42 hl (by decide) rfl (fun ls hl => ?_)
          refine lv_goto (tgt := 10) hx hb dX10_inverse_44 (by decide) ?_
          exact ih10 ls f_10 H locs v10_1 w14 z15 (show z15.toInt < _ by omega) (lv_cons hl 2 rfl (lv_cons hl 1 rfl (lv_cons hl 0 rfl (lv_nil hl)))) h t_10 o_10 (ivl_w iv10_1 (by decide)) (ivl_w iw14 (by decide)) (iv_w iz15 (by decide)) (show 0 ≤ v10_1.toInt ∧ v10_1.toInt ≤ 1000002 ∧ 0 ≤ w14.toInt ∧ w14.toInt ≤ 1000002 by omega) (show sqm 40 v10_1.toInt w14.toInt z15.toInt = pinv u0.toInt from (by rw [← hv10_1, sqm_s (p := v10_1.toInt) (q := v10_3.toInt) (k := v10_5.toInt) (by omega) (by omega), if_neg (by omega), mw14, mw13, mz15]))
        · have c11 : z7.toInt ≠ 0 := fun z_ => c8 (Int32.toInt_inj.mp z_)
          have i12 : iv z7 1 1 := iv_Nl c11 iz7 (by decide)
          refine lv_lload_n hx hb dX10_inverse_22 rfl (lv_at hl 0 rfl) ?_
          refine lv_lload_n hx hb dX10_inverse_23 rfl (lv_at hl 1 rfl) ?_
          refine lv_lmul hx hb dX10_inverse_24 (lv_topl (fun w16 ew16 => ?_))
          obtain ⟨mw16, bw16⟩ := L_mulp (A := 1000002) (B := 1000002) ew16 ⟨by omega, by omega⟩ ⟨by omega, by omega⟩ (by decide)
          refine lv_ldc2 (v := 1000003) hx hb hown (hts _ w_743) dX10_inverse_25 ?_
          refine lv_lrem hx hb dX10_inverse_28 (by decide) (i_topl (lrem_iv (k := 1000003) rfl (by decide) (lo := -1000002) (hi := 1000002) (by decide)) (fun w17 ew17 iw17 => ?_))
          have mw17 := L_rem ew17 (by omega)
          refine lv_lstore_n (lv' := [(1, .long w17), (3, .long v10_3), (5, .int v10_5)]) hx hb dX10_inverse_29 rfl hl (by decide) rfl (fun ls hl => ?_)
          refine lv_lload_n hx hb dX10_inverse_30 rfl (lv_at hl 1 rfl) ?_
          refine lv_lload_n hx hb dX10_inverse_31 rfl (lv_at hl 1 rfl) ?_
          refine lv_lmul hx hb dX10_inverse_32 (lv_topl (fun w18 ew18 => ?_))
          obtain ⟨mw18, bw18⟩ := L_mulp (A := 1000002) (B := 1000002) ew18 ⟨by omega, by omega⟩ ⟨by omega, by omega⟩ (by decide)
          refine lv_ldc2 (v := 1000003) hx hb hown (hts _ w_743) dX10_inverse_33 ?_
          refine lv_lrem hx hb dX10_inverse_36 (by decide) (i_topl (lrem_iv (k := 1000003) rfl (by decide) (lo := -1000002) (hi := 1000002) (by decide)) (fun w19 ew19 iw19 => ?_))
          have mw19 := L_rem ew19 (by omega)
          refine lv_lstore_n (lv' := [(3, .long w19), (1, .long w17), (5, .int v10_5)]) hx hb dX10_inverse_37 rfl hl (by decide) rfl (fun ls hl => ?_)
          refine lv_iload hx hb dX10_inverse_38 (lv_at hl 2 rfl) ?_
          refine lv_iconst (v := 1) hx hb dX10_inverse_40 (by decide) ?_
          refine lv_ishr hx hb dX10_inverse_41 (i_topm (P := fun q_ => q_ = Int32.toInt v10_5 / 2) (iv_shr1 i5 (lo := 0) (hi := 500000) (by decide)) (fun z20 ez20 mz20 iz20 => ?_))
          refine lv_istore (lv' := [(5, .int z20), (3, .long w19), (1, .long w17)]) hx hb dX10_inverse_42 hl (by decide) rfl (fun ls hl => ?_)
          refine lv_goto (tgt := 10) hx hb dX10_inverse_44 (by decide) ?_
          exact ih10 ls f_10 H locs w17 w19 z20 (show z20.toInt < _ by omega) (lv_cons hl 2 rfl (lv_cons hl 1 rfl (lv_cons hl 0 rfl (lv_nil hl)))) h t_10 o_10 (ivl_w iw17 (by decide)) (ivl_w iw19 (by decide)) (iv_w iz20 (by decide)) (show 0 ≤ w17.toInt ∧ w17.toInt ≤ 1000002 ∧ 0 ≤ w19.toInt ∧ w19.toInt ≤ 1000002 by omega) (show sqm 40 w17.toInt w19.toInt z20.toInt = pinv u0.toInt from (by rw [← hv10_1, sqm_s (p := v10_1.toInt) (q := v10_3.toInt) (k := v10_5.toInt) (by omega) (by omega), if_pos (by omega), mw17, mw16, mw19, mw18, mz20]))
  refine lv_lconst (v := 1) hx hb dX10_inverse_0 (by decide) ?_
  refine lv_lstore_n (lv' := [(1, .long 1), (0, .int u0)]) hx hb dX10_inverse_1 rfl hl (by decide) rfl (fun ls hl => ?_)
  refine lv_iload_n hx hb dX10_inverse_2 rfl (lv_at hl 1 rfl) ?_
  refine lv_i2l hx hb dX10_inverse_3 rfl (i_topL hu0 (fun w21 ew21 mw21 iw21 => ?_))
  refine lv_lstore_n (lv' := [(3, .long w21), (1, .long 1), (0, .int u0)]) hx hb dX10_inverse_4 rfl hl (by decide) rfl (fun ls hl => ?_)
  refine lv_ldcw (v := 1000001) hx hb hown (hts _ w_812) dX10_inverse_5 ?_
  refine lv_istore (lv' := [(5, .int 1000001), (3, .long w21), (1, .long 1), (0, .int u0)]) hx hb dX10_inverse_8 hl (by decide) rfl (fun ls hl => ?_)
  exact L10 1000002 ls f s.heap [] 1 w21 1000001 (by decide) (lv_cons hl 2 rfl (lv_cons hl 1 rfl (lv_cons hl 0 rfl (lv_nil hl)))) h t o (ivl_w (ivl_k (x := 1) (k := 1) rfl) (by decide)) (ivl_w iw21 (by decide)) ⟨by decide, by decide⟩ (show 0 ≤ 1 ∧ 1 ≤ 1000002 ∧ 0 ≤ w21.toInt ∧ w21.toInt ≤ 1000002 by omega) (show sqm 40 1 w21.toInt 1000001 = pinv u0.toInt from (by unfold pinv; rw [mw21]))
abbrev rm_s_X8_mixedX : Room := { frames := 1, cells := 0, slots := 0, locals := 25 }
set_option maxRecDepth 100000 in
set_option maxHeartbeats 4000000 in
theorem s_X8_mixedX (l : Launch) (D : va_G) (G : Nat → Nat) (b0 : Nat) (τ : Nat → Nat) (f : hM) (t : TI G 9 τ f) (u0 : Int32) (hu0 : iv u0 0 9) (u1 : Int32) (hu1 : iv u1 0 9) (u2 : Int32) (hu2 : iv u2 0 9) (u3 : Int32) (hu3 : iv u3 0 1000002) : mI l yX8_mixed cX8_mixed 4 (.int) rm_s_X8_mixedX D G b0 f [.int u0, .int u1, .int u2, .int u3] (fun r f1 => iv r 0 1000002 ∧ TI G 9 τ f1 ∧ Fr [] τ f f1 ∧ (r.toInt = mx u0.toInt u1.toInt u2.toInt u3.toInt)) := by
  refine met2 (own := RX8) (by decide) rfl (Nat.le_of_ble_eq_true rfl) ?_
  intro p e s m args below meth c ls Q hQ C hr hini hl h
  have hl : lv_has ls 4 [(0, .int u0), (1, .int u1), (2, .int u2), (3, .int u3)] := hl
  obtain ⟨hx, hb, hml, hown, hts, hE0, hlk⟩ := id C
  have o := Fr.rf [] τ f
  refine lv_iload_n hx hb dX8_mixed_0 rfl (lv_at hl 0 rfl) ?_
  refine lv_i2l hx hb dX8_mixed_1 rfl (i_topL hu0 (fun w1 ew1 mw1 iw1 => ?_))
  refine lv_iload_n hx hb dX8_mixed_2 rfl (lv_at hl 3 rfl) ?_
  refine lv_i2l hx hb dX8_mixed_3 rfl (i_topL hu3 (fun w2 ew2 mw2 iw2 => ?_))
  refine lv_lmul hx hb dX8_mixed_4 (lv_topl (fun w3 ew3 => ?_))
  obtain ⟨mw3, bw3⟩ := L_mulp (A := 9) (B := 1000002) ew3 ⟨by omega, by omega⟩ ⟨by omega, by omega⟩ (by decide)
  rw [mw1] at mw3
  rw [mw2] at mw3
  refine lv_iload_n hx hb dX8_mixed_5 rfl (lv_at hl 1 rfl) ?_
  refine lv_i2l hx hb dX8_mixed_6 rfl (i_topL hu1 (fun w4 ew4 mw4 iw4 => ?_))
  refine lv_ladd hx hb dX8_mixed_7 (lv_topl (fun w5 ew5 => ?_))
  have mw5 := L_add ew5 (by omega)
  rw [mw4] at mw5
  refine lv_iload_n hx hb dX8_mixed_8 rfl (lv_at hl 2 rfl) ?_
  refine lv_i2l hx hb dX8_mixed_9 rfl (i_topL hu2 (fun w6 ew6 mw6 iw6 => ?_))
  refine lv_iload_n hx hb dX8_mixed_10 rfl (lv_at hl 3 rfl) ?_
  refine k_i (r_SN C h hl (host := "QuarterWalks") (As := [.int u3]) (rest := [.long w6, .long w5]) (s_X10_inverseX l D G b0 τ f t u3 hu3) mk_X10_inverse (by decide) w_810 w_811 ⟨Nat.le_of_ble_eq_true rfl, Nat.le_of_ble_eq_true rfl⟩ rfl (Nat.le_of_ble_eq_true rfl) ⟨Nat.le_of_ble_eq_true rfl, Nat.le_of_ble_eq_true rfl⟩ rfl dX8_mixed_11) h (fun r7 f8 H locs p9 h => ?_)
  obtain ⟨ir7, tf8, ogf8, x0r7⟩ := p9
  have egf8 := Fr.nil2 ogf8
  subst egf8
  refine lv_i2l hx hb dX8_mixed_14 rfl (i_topL ir7 (fun w10 ew10 mw10 iw10 => ?_))
  refine lv_lmul hx hb dX8_mixed_15 (lv_topl (fun w11 ew11 => ?_))
  obtain ⟨mw11, bw11⟩ := L_mulp (A := 9) (B := 1000002) ew11 ⟨by omega, by omega⟩ ⟨by omega, by omega⟩ (by decide)
  rw [mw6] at mw11
  rw [mw10] at mw11
  refine lv_ladd hx hb dX8_mixed_16 (lv_topl (fun w12 ew12 => ?_))
  have mw12 := L_add ew12 (by omega)
  refine k_i (r_SN C h hl (host := "QuarterWalks") (As := [.long w12]) (rest := []) (s_X10_residueX l D G b0 τ f t w12) mk_X10_residue (by decide) w_741 w_742 ⟨Nat.le_of_ble_eq_true rfl, Nat.le_of_ble_eq_true rfl⟩ rfl (Nat.le_of_ble_eq_true rfl) ⟨Nat.le_of_ble_eq_true rfl, Nat.le_of_ble_eq_true rfl⟩ rfl dX8_mixed_17) h (fun r13 f14 H locs p15 h => ?_)
  obtain ⟨ir13, tf14, ogf14, x0r13⟩ := p15
  have egf14 := Fr.nil2 ogf14
  subst egf14
  exact u_iret C h hr hQ (⟨ir13, t, o, (by rw [x0r13, mw12, mw5, mw3, mw11, x0r7]; rfl)⟩) (Nat.le_of_ble_eq_true rfl) (Nat.le_of_ble_eq_true rfl) dX8_mixed_20
abbrev rm_s_X8_quotientX : Room := { frames := 1, cells := 0, slots := 0, locals := 25 }
set_option maxRecDepth 100000 in
set_option maxHeartbeats 4000000 in
theorem s_X8_quotientX (l : Launch) (D : va_G) (G : Nat → Nat) (b0 : Nat) (τ : Nat → Nat) (f : hM) (t : TI G 9 τ f) (u0 : Int32) (hu0 : iv u0 0 1000002) (u1 : Int32) (hu1 : iv u1 0 1000002) (u2 : Int32) (hu2 : iv u2 0 1000002) : mI l yX8_quotient cX8_quotient 3 (.int) rm_s_X8_quotientX D G b0 f [.int u0, .int u1, .int u2] (fun r f1 => iv r (-1) 1000002 ∧ TI G 9 τ f1 ∧ Fr [] τ f f1 ∧ (r.toInt = quo u0.toInt u1.toInt u2.toInt)) := by
  refine met2 (own := RX8) (by decide) rfl (Nat.le_of_ble_eq_true rfl) ?_
  intro p e s m args below meth c ls Q hQ C hr hini hl h
  have hl : lv_has ls 3 [(0, .int u0), (1, .int u1), (2, .int u2)] := hl
  obtain ⟨hx, hb, hml, hown, hts, hE0, hlk⟩ := id C
  have o := Fr.rf [] τ f
  refine lv_iload_n hx hb dX8_quotient_0 rfl (lv_at hl 0 rfl) ?_
  refine lv_if_eq (tgt := 8) hx hb dX8_quotient_1 (by decide) (fun c1 => ?_) (fun c1 => ?_)
  · have c2 : u0.toInt = 0 := congrArg Int32.toInt c1
    have i3 : iv u0 0 0 := iv_Q c2 hu0 (iv_k (x := 0) (k := 0) rfl) (by decide)
    refine lv_iconst (v := -1) hx hb dX8_quotient_8 (by decide) ?_
    refine lv_goto (tgt := 28) hx hb dX8_quotient_9 (by decide) ?_
    exact u_iret C h hr hQ (⟨⟨by decide, by decide⟩, t, o, (by show (-1 : Int) = _; unfold quo; rw [if_pos (by omega)])⟩) (Nat.le_of_ble_eq_true rfl) (Nat.le_of_ble_eq_true rfl) dX8_quotient_28
  · have c4 : u0.toInt ≠ 0 := fun z_ => c1 (Int32.toInt_inj.mp z_)
    have i5 : iv u0 1 1000002 := iv_Nl c4 hu0 (by decide)
    refine lv_iload_n hx hb dX8_quotient_4 rfl (lv_at hl 1 rfl) ?_
    refine lv_if_ne (tgt := 12) hx hb dX8_quotient_5 (by decide) (fun c6 => ?_) (fun c6 => ?_)
    · have c7 : u1.toInt ≠ 0 := fun z_ => c6 (Int32.toInt_inj.mp z_)
      have i8 : iv u1 1 1000002 := iv_Nl c7 hu1 (by decide)
      refine lv_iload_n hx hb dX8_quotient_12 rfl (lv_at hl 0 rfl) ?_
      refine lv_i2l hx hb dX8_quotient_13 rfl (i_topL i5 (fun w11 ew11 mw11 iw11 => ?_))
      refine lv_iload_n hx hb dX8_quotient_14 rfl (lv_at hl 1 rfl) ?_
      refine lv_i2l hx hb dX8_quotient_15 rfl (i_topL i8 (fun w12 ew12 mw12 iw12 => ?_))
      refine lv_iload_n hx hb dX8_quotient_16 rfl (lv_at hl 2 rfl) ?_
      refine lv_i2l hx hb dX8_quotient_17 rfl (i_topL hu2 (fun w13 ew13 mw13 iw13 => ?_))
      refine k_i (r_SN C h hl (host := "QuarterWalks") (As := [.long w12, .long w13]) (rest := [.long w11]) (s_X10_timesX l D G b0 τ f t w12 w13 (by omega) (by omega)) mk_X10_times (by decide) w_807 w_808 ⟨Nat.le_of_ble_eq_true rfl, Nat.le_of_ble_eq_true rfl⟩ rfl (Nat.le_of_ble_eq_true rfl) ⟨Nat.le_of_ble_eq_true rfl, Nat.le_of_ble_eq_true rfl⟩ rfl dX8_quotient_18) h (fun r14 f15 H locs p16 h => ?_)
      obtain ⟨ir14, tf15, ogf15, x0r14⟩ := p16
      have egf15 := Fr.nil2 ogf15
      subst egf15
      refine k_i (r_SN C h hl (host := "QuarterWalks") (As := [.int r14]) (rest := [.long w11]) (s_X10_inverseX l D G b0 τ f t r14 ir14) mk_X10_inverse (by decide) w_810 w_811 ⟨Nat.le_of_ble_eq_true rfl, Nat.le_of_ble_eq_true rfl⟩ rfl (Nat.le_of_ble_eq_true rfl) ⟨Nat.le_of_ble_eq_true rfl, Nat.le_of_ble_eq_true rfl⟩ rfl dX8_quotient_21) h (fun r17 f18 H locs p19 h => ?_)
      obtain ⟨ir17, tf18, ogf18, x0r17⟩ := p19
      have egf18 := Fr.nil2 ogf18
      subst egf18
      refine lv_i2l hx hb dX8_quotient_24 rfl (i_topL ir17 (fun w20 ew20 mw20 iw20 => ?_))
      refine k_i (r_SN C h hl (host := "QuarterWalks") (As := [.long w11, .long w20]) (rest := []) (s_X10_timesX l D G b0 τ f t w11 w20 (by omega) (by omega)) mk_X10_times (by decide) w_807 w_808 ⟨Nat.le_of_ble_eq_true rfl, Nat.le_of_ble_eq_true rfl⟩ rfl (Nat.le_of_ble_eq_true rfl) ⟨Nat.le_of_ble_eq_true rfl, Nat.le_of_ble_eq_true rfl⟩ rfl dX8_quotient_25) h (fun r21 f22 H locs p23 h => ?_)
      obtain ⟨ir21, tf22, ogf22, x0r21⟩ := p23
      have egf22 := Fr.nil2 ogf22
      subst egf22
      exact u_iret C h hr hQ (⟨(iv_w ir21 (by decide)), t, o, (by unfold quo; rw [if_neg (by omega), x0r21, mw11, mw20, x0r17, x0r14, mw12, mw13])⟩) (Nat.le_of_ble_eq_true rfl) (Nat.le_of_ble_eq_true rfl) dX8_quotient_28
    · have c9 : u1.toInt = 0 := congrArg Int32.toInt c6
      have i10 : iv u1 0 0 := iv_Q c9 hu1 (iv_k (x := 0) (k := 0) rfl) (by decide)
      refine lv_iconst (v := -1) hx hb dX8_quotient_8 (by decide) ?_
      refine lv_goto (tgt := 28) hx hb dX8_quotient_9 (by decide) ?_
      exact u_iret C h hr hQ (⟨⟨by decide, by decide⟩, t, o, (by show (-1 : Int) = _; unfold quo; rw [if_pos (by omega)])⟩) (Nat.le_of_ble_eq_true rfl) (Nat.le_of_ble_eq_true rfl) dX8_quotient_28
abbrev rm_s_X8_newXX : Room := { frames := 2, cells := 0, slots := 0, locals := 48 }
set_option maxRecDepth 100000 in
set_option maxHeartbeats 4000000 in
theorem s_X8_newXX (l : Launch) (D : va_G) (G : Nat → Nat) (b0 : Nat) (τ : Nat → Nat) (f : hM) (t : TI G 9 τ f) (u0 : Nat) (hu0 : τ u0 = 1) (u1 : Int32) (hu1 : iv u1 0 1000002) (u2 : Int32) (hu2 : iv u2 0 1000002) (wq : Nat) (hwq : τ wq = 2) (k_u0_0 : atp f u0 (fd 0 (.ref wq))) (ww : Nat → Int32) (hRwq : atp f wq (eqc (.inl (G 1, 8, .inl ww)))) : mI l yX8_newX cX8_newX 4 (.int) rm_s_X8_newXX D G b0 f [.ref u0, .int u1, .int u2] (fun r f1 => iv r (-1) 1000002 ∧ TI G 9 τ f1 ∧ Fr [] τ f f1 ∧ (r.toInt = tX (fun k : Int => (ww k.toNat).toInt) u1.toInt u2.toInt)) := by
  refine met2 (own := RX8) (by decide) rfl (Nat.le_of_ble_eq_true rfl) ?_
  intro p e s m args below meth c ls Q hQ C hr hini hl h
  have hl : lv_has ls 4 [(0, .ref u0), (1, .int u1), (2, .int u2)] := hl
  obtain ⟨hx, hb, hml, hown, hts, hE0, hlk⟩ := id C
  have o := Fr.rf [] τ f
  refine lv_aload_n hx hb dX8_newX_0 rfl (lv_at hl 0 rfl) ?_
  refine t_getfd C h t hu0 (by decide) wf_1 (v := .ref wq) k_u0_0 fl_X8_18 dX8_newX_1 ?_
  refine lv_astore_n (lv' := [(3, .ref wq), (0, .ref u0), (1, .int u1), (2, .int u2)]) hx hb dX8_newX_4 rfl hl (by decide) rfl (fun ls hl => ?_)
  refine lv_aload_n hx hb dX8_newX_5 rfl (lv_at hl 0 rfl) ?_
  refine lv_bipush (v := 7) hx hb dX8_newX_6 (by decide) ?_
  refine e_iald C h t hwq (by decide) wf_2 hRwq (by unfold vp_in; decide) dX8_newX_8 (fun z1 ez1 iz1 => ?_)
  have mz1 := congrArg Int32.toInt ez1
  refine lv_aload_n hx hb dX8_newX_9 rfl (lv_at hl 0 rfl) ?_
  refine lv_bipush (v := 6) hx hb dX8_newX_10 (by decide) ?_
  refine e_iald C h t hwq (by decide) wf_2 hRwq (by unfold vp_in; decide) dX8_newX_12 (fun z2 ez2 iz2 => ?_)
  have mz2 := congrArg Int32.toInt ez2
  refine lv_aload_n hx hb dX8_newX_13 rfl (lv_at hl 0 rfl) ?_
  refine lv_iconst (v := 5) hx hb dX8_newX_14 (by decide) ?_
  refine e_iald C h t hwq (by decide) wf_2 hRwq (by unfold vp_in; decide) dX8_newX_15 (fun z3 ez3 iz3 => ?_)
  have mz3 := congrArg Int32.toInt ez3
  refine lv_iload_n hx hb dX8_newX_16 rfl (lv_at hl 3 rfl) ?_
  refine k_i (r_S C h hl (As := [.int z1, .int z2, .int z3, .int u2]) (rest := []) (s_X8_mixedX l D G b0 τ f t z1 iz1 z2 iz2 z3 iz3 u2 hu2) mk_X8_mixed w_947 w_948 w_949 ⟨Nat.le_of_ble_eq_true rfl, Nat.le_of_ble_eq_true rfl⟩ rfl (Nat.le_of_ble_eq_true rfl) ⟨Nat.le_of_ble_eq_true rfl, Nat.le_of_ble_eq_true rfl⟩ rfl dX8_newX_17) h (fun r4 f5 H locs p6 h => ?_)
  obtain ⟨ir4, tf5, ogf5, x0r4⟩ := p6
  have egf5 := Fr.nil2 ogf5
  subst egf5
  refine lv_aload_n hx hb dX8_newX_20 rfl (lv_at hl 0 rfl) ?_
  refine lv_iconst (v := 1) hx hb dX8_newX_21 (by decide) ?_
  refine e_iald C h t hwq (by decide) wf_2 hRwq (by unfold vp_in; decide) dX8_newX_22 (fun z7 ez7 iz7 => ?_)
  have mz7 := congrArg Int32.toInt ez7
  refine lv_aload_n hx hb dX8_newX_23 rfl (lv_at hl 0 rfl) ?_
  refine lv_iconst (v := 2) hx hb dX8_newX_24 (by decide) ?_
  refine e_iald C h t hwq (by decide) wf_2 hRwq (by unfold vp_in; decide) dX8_newX_25 (fun z8 ez8 iz8 => ?_)
  have mz8 := congrArg Int32.toInt ez8
  refine lv_aload_n hx hb dX8_newX_26 rfl (lv_at hl 0 rfl) ?_
  refine lv_iconst (v := 3) hx hb dX8_newX_27 (by decide) ?_
  refine e_iald C h t hwq (by decide) wf_2 hRwq (by unfold vp_in; decide) dX8_newX_28 (fun z9 ez9 iz9 => ?_)
  have mz9 := congrArg Int32.toInt ez9
  refine lv_iload_n hx hb dX8_newX_29 rfl (lv_at hl 3 rfl) ?_
  refine k_i (r_S C h hl (As := [.int z7, .int z8, .int z9, .int u2]) (rest := [.int r4]) (s_X8_mixedX l D G b0 τ f t z7 iz7 z8 iz8 z9 iz9 u2 hu2) mk_X8_mixed w_947 w_948 w_949 ⟨Nat.le_of_ble_eq_true rfl, Nat.le_of_ble_eq_true rfl⟩ rfl (Nat.le_of_ble_eq_true rfl) ⟨Nat.le_of_ble_eq_true rfl, Nat.le_of_ble_eq_true rfl⟩ rfl dX8_newX_30) h (fun r10 f11 H locs p12 h => ?_)
  obtain ⟨ir10, tf11, ogf11, x0r10⟩ := p12
  have egf11 := Fr.nil2 ogf11
  subst egf11
  refine lv_iload_n hx hb dX8_newX_33 rfl (lv_at hl 2 rfl) ?_
  refine k_i (r_S C h hl (As := [.int r4, .int r10, .int u1]) (rest := []) (s_X8_quotientX l D G b0 τ f t r4 ir4 r10 ir10 u1 hu1) mk_X8_quotient w_960 w_961 w_962 ⟨Nat.le_of_ble_eq_true rfl, Nat.le_of_ble_eq_true rfl⟩ rfl (Nat.le_of_ble_eq_true rfl) ⟨Nat.le_of_ble_eq_true rfl, Nat.le_of_ble_eq_true rfl⟩ rfl dX8_newX_34) h (fun r13 f14 H locs p15 h => ?_)
  obtain ⟨ir13, tf14, ogf14, x0r13⟩ := p15
  have egf14 := Fr.nil2 ogf14
  subst egf14
  exact u_iret C h hr hQ (⟨ir13, t, o, (by rw [x0r13, x0r4, x0r10, ez1, ez2, ez3, ez7, ez8, ez9]; rfl)⟩) (Nat.le_of_ble_eq_true rfl) (Nat.le_of_ble_eq_true rfl) dX8_newX_37
abbrev rm_s_X8_newYX : Room := { frames := 2, cells := 0, slots := 0, locals := 48 }
set_option maxRecDepth 100000 in
set_option maxHeartbeats 4000000 in
theorem s_X8_newYX (l : Launch) (D : va_G) (G : Nat → Nat) (b0 : Nat) (τ : Nat → Nat) (f : hM) (t : TI G 9 τ f) (u0 : Nat) (hu0 : τ u0 = 1) (u1 : Int32) (hu1 : iv u1 0 1000002) (u2 : Int32) (hu2 : iv u2 0 1000002) (wq : Nat) (hwq : τ wq = 2) (k_u0_0 : atp f u0 (fd 0 (.ref wq))) (ww : Nat → Int32) (hRwq : atp f wq (eqc (.inl (G 1, 8, .inl ww)))) : mI l yX8_newY cX8_newY 4 (.int) rm_s_X8_newYX D G b0 f [.ref u0, .int u1, .int u2] (fun r f1 => iv r (-1) 1000002 ∧ TI G 9 τ f1 ∧ Fr [] τ f f1 ∧ (r.toInt = tY (fun k : Int => (ww k.toNat).toInt) u1.toInt u2.toInt)) := by
  refine met2 (own := RX8) (by decide) rfl (Nat.le_of_ble_eq_true rfl) ?_
  intro p e s m args below meth c ls Q hQ C hr hini hl h
  have hl : lv_has ls 4 [(0, .ref u0), (1, .int u1), (2, .int u2)] := hl
  obtain ⟨hx, hb, hml, hown, hts, hE0, hlk⟩ := id C
  have o := Fr.rf [] τ f
  refine lv_aload_n hx hb dX8_newY_0 rfl (lv_at hl 0 rfl) ?_
  refine t_getfd C h t hu0 (by decide) wf_1 (v := .ref wq) k_u0_0 fl_X8_18 dX8_newY_1 ?_
  refine lv_astore_n (lv' := [(3, .ref wq), (0, .ref u0), (1, .int u1), (2, .int u2)]) hx hb dX8_newY_4 rfl hl (by decide) rfl (fun ls hl => ?_)
  refine lv_aload_n hx hb dX8_newY_5 rfl (lv_at hl 0 rfl) ?_
  refine lv_iconst (v := 3) hx hb dX8_newY_6 (by decide) ?_
  refine e_iald C h t hwq (by decide) wf_2 hRwq (by unfold vp_in; decide) dX8_newY_7 (fun z1 ez1 iz1 => ?_)
  have mz1 := congrArg Int32.toInt ez1
  refine lv_aload_n hx hb dX8_newY_8 rfl (lv_at hl 0 rfl) ?_
  refine lv_iconst (v := 4) hx hb dX8_newY_9 (by decide) ?_
  refine e_iald C h t hwq (by decide) wf_2 hRwq (by unfold vp_in; decide) dX8_newY_10 (fun z2 ez2 iz2 => ?_)
  have mz2 := congrArg Int32.toInt ez2
  refine lv_aload_n hx hb dX8_newY_11 rfl (lv_at hl 0 rfl) ?_
  refine lv_iconst (v := 5) hx hb dX8_newY_12 (by decide) ?_
  refine e_iald C h t hwq (by decide) wf_2 hRwq (by unfold vp_in; decide) dX8_newY_13 (fun z3 ez3 iz3 => ?_)
  have mz3 := congrArg Int32.toInt ez3
  refine lv_iload_n hx hb dX8_newY_14 rfl (lv_at hl 2 rfl) ?_
  refine k_i (r_S C h hl (As := [.int z1, .int z2, .int z3, .int u1]) (rest := []) (s_X8_mixedX l D G b0 τ f t z1 iz1 z2 iz2 z3 iz3 u1 hu1) mk_X8_mixed w_947 w_948 w_949 ⟨Nat.le_of_ble_eq_true rfl, Nat.le_of_ble_eq_true rfl⟩ rfl (Nat.le_of_ble_eq_true rfl) ⟨Nat.le_of_ble_eq_true rfl, Nat.le_of_ble_eq_true rfl⟩ rfl dX8_newY_15) h (fun r4 f5 H locs p6 h => ?_)
  obtain ⟨ir4, tf5, ogf5, x0r4⟩ := p6
  have egf5 := Fr.nil2 ogf5
  subst egf5
  refine lv_aload_n hx hb dX8_newY_18 rfl (lv_at hl 0 rfl) ?_
  refine lv_iconst (v := 1) hx hb dX8_newY_19 (by decide) ?_
  refine e_iald C h t hwq (by decide) wf_2 hRwq (by unfold vp_in; decide) dX8_newY_20 (fun z7 ez7 iz7 => ?_)
  have mz7 := congrArg Int32.toInt ez7
  refine lv_aload_n hx hb dX8_newY_21 rfl (lv_at hl 0 rfl) ?_
  refine lv_iconst (v := 0) hx hb dX8_newY_22 (by decide) ?_
  refine e_iald C h t hwq (by decide) wf_2 hRwq (by unfold vp_in; decide) dX8_newY_23 (fun z8 ez8 iz8 => ?_)
  have mz8 := congrArg Int32.toInt ez8
  refine lv_aload_n hx hb dX8_newY_24 rfl (lv_at hl 0 rfl) ?_
  refine lv_bipush (v := 7) hx hb dX8_newY_25 (by decide) ?_
  refine e_iald C h t hwq (by decide) wf_2 hRwq (by unfold vp_in; decide) dX8_newY_27 (fun z9 ez9 iz9 => ?_)
  have mz9 := congrArg Int32.toInt ez9
  refine lv_iload_n hx hb dX8_newY_28 rfl (lv_at hl 2 rfl) ?_
  refine k_i (r_S C h hl (As := [.int z7, .int z8, .int z9, .int u1]) (rest := [.int r4]) (s_X8_mixedX l D G b0 τ f t z7 iz7 z8 iz8 z9 iz9 u1 hu1) mk_X8_mixed w_947 w_948 w_949 ⟨Nat.le_of_ble_eq_true rfl, Nat.le_of_ble_eq_true rfl⟩ rfl (Nat.le_of_ble_eq_true rfl) ⟨Nat.le_of_ble_eq_true rfl, Nat.le_of_ble_eq_true rfl⟩ rfl dX8_newY_29) h (fun r10 f11 H locs p12 h => ?_)
  obtain ⟨ir10, tf11, ogf11, x0r10⟩ := p12
  have egf11 := Fr.nil2 ogf11
  subst egf11
  refine lv_iload_n hx hb dX8_newY_32 rfl (lv_at hl 3 rfl) ?_
  refine k_i (r_S C h hl (As := [.int r4, .int r10, .int u2]) (rest := []) (s_X8_quotientX l D G b0 τ f t r4 ir4 r10 ir10 u2 hu2) mk_X8_quotient w_960 w_961 w_962 ⟨Nat.le_of_ble_eq_true rfl, Nat.le_of_ble_eq_true rfl⟩ rfl (Nat.le_of_ble_eq_true rfl) ⟨Nat.le_of_ble_eq_true rfl, Nat.le_of_ble_eq_true rfl⟩ rfl dX8_newY_33) h (fun r13 f14 H locs p15 h => ?_)
  obtain ⟨ir13, tf14, ogf14, x0r13⟩ := p15
  have egf14 := Fr.nil2 ogf14
  subst egf14
  exact u_iret C h hr hQ (⟨ir13, t, o, (by rw [x0r13, x0r4, x0r10, ez1, ez2, ez3, ez7, ez8, ez9]; rfl)⟩) (Nat.le_of_ble_eq_true rfl) (Nat.le_of_ble_eq_true rfl) dX8_newY_36
abbrev rm_s_X8_kernelAtX : Room := { frames := 2, cells := 0, slots := 0, locals := 48 }
set_option maxRecDepth 100000 in
set_option maxHeartbeats 4000000 in
theorem s_X8_kernelAtX (l : Launch) (D : va_G) (G : Nat → Nat) (b0 : Nat) (τ : Nat → Nat) (f : hM) (t : TI G 9 τ f) (u0 : Nat) (hu0 : τ u0 = 1) (u1 : Int32) (hu1 : iv u1 0 1000002) (u2 : Int32) (hu2 : iv u2 0 1000002) (wq : Nat) (hwq : τ wq = 2) (k_u0_0 : atp f u0 (fd 0 (.ref wq))) (ww : Nat → Int32) (hRwq : atp f wq (eqc (.inl (G 1, 8, .inl ww)))) : mI l yX8_kernelAt cX8_kernelAt 6 (.int) rm_s_X8_kernelAtX D G b0 f [.ref u0, .int u1, .int u2] (fun r f1 => iv r 0 1000002 ∧ TI G 9 τ f1 ∧ Fr [] τ f f1 ∧ (r.toInt = ker (fun k : Int => (ww k.toNat).toInt) u1.toInt u2.toInt)) := by
  refine met2 (own := RX8) (by decide) rfl (Nat.le_of_ble_eq_true rfl) ?_
  intro p e s m args below meth c ls Q hQ C hr hini hl h
  have hl : lv_has ls 6 [(0, .ref u0), (1, .int u1), (2, .int u2)] := hl
  obtain ⟨hx, hb, hml, hown, hts, hE0, hlk⟩ := id C
  have o := Fr.rf [] τ f
  refine lv_aload_n hx hb dX8_kernelAt_0 rfl (lv_at hl 0 rfl) ?_
  refine t_getfd C h t hu0 (by decide) wf_1 (v := .ref wq) k_u0_0 fl_X8_18 dX8_kernelAt_1 ?_
  refine lv_astore_n (lv' := [(3, .ref wq), (0, .ref u0), (1, .int u1), (2, .int u2)]) hx hb dX8_kernelAt_4 rfl hl (by decide) rfl (fun ls hl => ?_)
  refine lv_aload_n hx hb dX8_kernelAt_5 rfl (lv_at hl 0 rfl) ?_
  refine lv_iconst (v := 1) hx hb dX8_kernelAt_6 (by decide) ?_
  refine e_iald C h t hwq (by decide) wf_2 hRwq (by unfold vp_in; decide) dX8_kernelAt_7 (fun z1 ez1 iz1 => ?_)
  have mz1 := congrArg Int32.toInt ez1
  refine lv_aload_n hx hb dX8_kernelAt_8 rfl (lv_at hl 0 rfl) ?_
  refine lv_iconst (v := 2) hx hb dX8_kernelAt_9 (by decide) ?_
  refine e_iald C h t hwq (by decide) wf_2 hRwq (by unfold vp_in; decide) dX8_kernelAt_10 (fun z2 ez2 iz2 => ?_)
  have mz2 := congrArg Int32.toInt ez2
  refine lv_aload_n hx hb dX8_kernelAt_11 rfl (lv_at hl 0 rfl) ?_
  refine lv_iconst (v := 3) hx hb dX8_kernelAt_12 (by decide) ?_
  refine e_iald C h t hwq (by decide) wf_2 hRwq (by unfold vp_in; decide) dX8_kernelAt_13 (fun z3 ez3 iz3 => ?_)
  have mz3 := congrArg Int32.toInt ez3
  refine lv_iload_n hx hb dX8_kernelAt_14 rfl (lv_at hl 3 rfl) ?_
  refine k_i (r_S C h hl (As := [.int z1, .int z2, .int z3, .int u2]) (rest := []) (s_X8_mixedX l D G b0 τ f t z1 iz1 z2 iz2 z3 iz3 u2 hu2) mk_X8_mixed w_947 w_948 w_949 ⟨Nat.le_of_ble_eq_true rfl, Nat.le_of_ble_eq_true rfl⟩ rfl (Nat.le_of_ble_eq_true rfl) ⟨Nat.le_of_ble_eq_true rfl, Nat.le_of_ble_eq_true rfl⟩ rfl dX8_kernelAt_15) h (fun r4 f5 H locs p6 h => ?_)
  obtain ⟨ir4, tf5, ogf5, x0r4⟩ := p6
  have egf5 := Fr.nil2 ogf5
  subst egf5
  refine lv_i2l hx hb dX8_kernelAt_18 rfl (i_topL ir4 (fun w7 ew7 mw7 iw7 => ?_))
  refine lv_iload_n hx hb dX8_kernelAt_19 rfl (lv_at hl 2 rfl) ?_
  refine lv_i2l hx hb dX8_kernelAt_20 rfl (i_topL hu1 (fun w8 ew8 mw8 iw8 => ?_))
  refine k_i (r_SN C h hl (host := "QuarterWalks") (As := [.long w7, .long w8]) (rest := []) (s_X10_timesX l D G b0 τ f t w7 w8 (by omega) (by omega)) mk_X10_times (by decide) w_807 w_808 ⟨Nat.le_of_ble_eq_true rfl, Nat.le_of_ble_eq_true rfl⟩ rfl (Nat.le_of_ble_eq_true rfl) ⟨Nat.le_of_ble_eq_true rfl, Nat.le_of_ble_eq_true rfl⟩ rfl dX8_kernelAt_21) h (fun r9 f10 H locs p11 h => ?_)
  obtain ⟨ir9, tf10, ogf10, x0r9⟩ := p11
  have egf10 := Fr.nil2 ogf10
  subst egf10
  refine lv_i2l hx hb dX8_kernelAt_24 rfl (i_topL ir9 (fun w12 ew12 mw12 iw12 => ?_))
  refine lv_aload_n hx hb dX8_kernelAt_25 rfl (lv_at hl 0 rfl) ?_
  refine lv_bipush (v := 7) hx hb dX8_kernelAt_26 (by decide) ?_
  refine e_iald C h t hwq (by decide) wf_2 hRwq (by unfold vp_in; decide) dX8_kernelAt_28 (fun z13 ez13 iz13 => ?_)
  have mz13 := congrArg Int32.toInt ez13
  refine lv_aload_n hx hb dX8_kernelAt_29 rfl (lv_at hl 0 rfl) ?_
  refine lv_bipush (v := 6) hx hb dX8_kernelAt_30 (by decide) ?_
  refine e_iald C h t hwq (by decide) wf_2 hRwq (by unfold vp_in; decide) dX8_kernelAt_32 (fun z14 ez14 iz14 => ?_)
  have mz14 := congrArg Int32.toInt ez14
  refine lv_aload_n hx hb dX8_kernelAt_33 rfl (lv_at hl 0 rfl) ?_
  refine lv_iconst (v := 5) hx hb dX8_kernelAt_34 (by decide) ?_
  refine e_iald C h t hwq (by decide) wf_2 hRwq (by unfold vp_in; decide) dX8_kernelAt_35 (fun z15 ez15 iz15 => ?_)
  have mz15 := congrArg Int32.toInt ez15
  refine lv_iload_n hx hb dX8_kernelAt_36 rfl (lv_at hl 3 rfl) ?_
  refine k_i (r_S C h hl (As := [.int z13, .int z14, .int z15, .int u2]) (rest := [.long w12]) (s_X8_mixedX l D G b0 τ f t z13 iz13 z14 iz14 z15 iz15 u2 hu2) mk_X8_mixed w_947 w_948 w_949 ⟨Nat.le_of_ble_eq_true rfl, Nat.le_of_ble_eq_true rfl⟩ rfl (Nat.le_of_ble_eq_true rfl) ⟨Nat.le_of_ble_eq_true rfl, Nat.le_of_ble_eq_true rfl⟩ rfl dX8_kernelAt_37) h (fun r16 f17 H locs p18 h => ?_)
  obtain ⟨ir16, tf17, ogf17, x0r16⟩ := p18
  have egf17 := Fr.nil2 ogf17
  subst egf17
  refine lv_i2l hx hb dX8_kernelAt_40 rfl (i_topL ir16 (fun w19 ew19 mw19 iw19 => ?_))
  refine lv_iload_n hx hb dX8_kernelAt_41 rfl (lv_at hl 2 rfl) ?_
  refine k_i (r_SN C h hl (host := "QuarterWalks") (As := [.int u1]) (rest := [.long w19, .long w12]) (s_X10_inverseX l D G b0 τ f t u1 hu1) mk_X10_inverse (by decide) w_810 w_811 ⟨Nat.le_of_ble_eq_true rfl, Nat.le_of_ble_eq_true rfl⟩ rfl (Nat.le_of_ble_eq_true rfl) ⟨Nat.le_of_ble_eq_true rfl, Nat.le_of_ble_eq_true rfl⟩ rfl dX8_kernelAt_42) h (fun r20 f21 H locs p22 h => ?_)
  obtain ⟨ir20, tf21, ogf21, x0r20⟩ := p22
  have egf21 := Fr.nil2 ogf21
  subst egf21
  refine lv_i2l hx hb dX8_kernelAt_45 rfl (i_topL ir20 (fun w23 ew23 mw23 iw23 => ?_))
  refine k_i (r_SN C h hl (host := "QuarterWalks") (As := [.long w19, .long w23]) (rest := [.long w12]) (s_X10_timesX l D G b0 τ f t w19 w23 (by omega) (by omega)) mk_X10_times (by decide) w_807 w_808 ⟨Nat.le_of_ble_eq_true rfl, Nat.le_of_ble_eq_true rfl⟩ rfl (Nat.le_of_ble_eq_true rfl) ⟨Nat.le_of_ble_eq_true rfl, Nat.le_of_ble_eq_true rfl⟩ rfl dX8_kernelAt_46) h (fun r24 f25 H locs p26 h => ?_)
  obtain ⟨ir24, tf25, ogf25, x0r24⟩ := p26
  have egf25 := Fr.nil2 ogf25
  subst egf25
  refine lv_i2l hx hb dX8_kernelAt_49 rfl (i_topL ir24 (fun w27 ew27 mw27 iw27 => ?_))
  refine lv_ladd hx hb dX8_kernelAt_50 (lv_topl (fun w28 ew28 => ?_))
  have mw28 := L_add ew28 (by omega)
  refine lv_lstore (lv' := [(4, .long w28), (3, .ref wq), (0, .ref u0), (1, .int u1), (2, .int u2)]) hx hb dX8_kernelAt_51 hl (by decide) rfl (fun ls hl => ?_)
  refine lv_lload hx hb dX8_kernelAt_53 (lv_at hl 0 rfl) ?_
  refine lv_aload_n hx hb dX8_kernelAt_55 rfl (lv_at hl 1 rfl) ?_
  refine lv_iconst (v := 0) hx hb dX8_kernelAt_56 (by decide) ?_
  refine e_iald C h t hwq (by decide) wf_2 hRwq (by unfold vp_in; decide) dX8_kernelAt_57 (fun z29 ez29 iz29 => ?_)
  have mz29 := congrArg Int32.toInt ez29
  refine lv_iconst (v := 0) hx hb dX8_kernelAt_58 (by decide) ?_
  refine lv_aload_n hx hb dX8_kernelAt_59 rfl (lv_at hl 1 rfl) ?_
  refine lv_iconst (v := 4) hx hb dX8_kernelAt_60 (by decide) ?_
  refine e_iald C h t hwq (by decide) wf_2 hRwq (by unfold vp_in; decide) dX8_kernelAt_61 (fun z30 ez30 iz30 => ?_)
  have mz30 := congrArg Int32.toInt ez30
  refine lv_iload_n hx hb dX8_kernelAt_62 rfl (lv_at hl 4 rfl) ?_
  refine k_i (r_S C h hl (As := [.int z29, .int 0, .int z30, .int u2]) (rest := [.long w28]) (s_X8_mixedX l D G b0 τ f t z29 iz29 0 (iv_w (iv_k (x := 0) (k := 0) rfl) (by decide)) z30 iz30 u2 hu2) mk_X8_mixed w_947 w_948 w_949 ⟨Nat.le_of_ble_eq_true rfl, Nat.le_of_ble_eq_true rfl⟩ rfl (Nat.le_of_ble_eq_true rfl) ⟨Nat.le_of_ble_eq_true rfl, Nat.le_of_ble_eq_true rfl⟩ rfl dX8_kernelAt_63) h (fun r31 f32 H locs p33 h => ?_)
  have n34 : (0 : Int32).toInt = 0 := rfl
  obtain ⟨ir31, tf32, ogf32, x0r31⟩ := p33
  have x0r31 : r31.toInt = mx z29.toInt 0 z30.toInt u2.toInt := x0r31
  have egf32 := Fr.nil2 ogf32
  subst egf32
  refine lv_i2l hx hb dX8_kernelAt_66 rfl (i_topL ir31 (fun w35 ew35 mw35 iw35 => ?_))
  refine lv_ladd hx hb dX8_kernelAt_67 (lv_topl (fun w36 ew36 => ?_))
  have mw36 := L_add ew36 (by omega)
  refine k_i (r_SN C h hl (host := "QuarterWalks") (As := [.long w36]) (rest := []) (s_X10_residueX l D G b0 τ f t w36) mk_X10_residue (by decide) w_741 w_742 ⟨Nat.le_of_ble_eq_true rfl, Nat.le_of_ble_eq_true rfl⟩ rfl (Nat.le_of_ble_eq_true rfl) ⟨Nat.le_of_ble_eq_true rfl, Nat.le_of_ble_eq_true rfl⟩ rfl dX8_kernelAt_68) h (fun r37 f38 H locs p39 h => ?_)
  obtain ⟨ir37, tf38, ogf38, x0r37⟩ := p39
  have egf38 := Fr.nil2 ogf38
  subst egf38
  exact u_iret C h hr hQ (⟨ir37, t, o, (by rw [x0r37, mw36, mw28, mw12, mw27, mw35, x0r9, x0r24, mw7, mw8, mw19, mw23, x0r4, x0r16, x0r20, x0r31, ez1, ez2, ez3, ez13, ez14, ez15, ez29, ez30]; rfl)⟩) (Nat.le_of_ble_eq_true rfl) (Nat.le_of_ble_eq_true rfl) dX8_kernelAt_71
abbrev rm_s_X10_kernelX : Room := { frames := 3, cells := 0, slots := 0, locals := 73 }
set_option maxRecDepth 100000 in
set_option maxHeartbeats 4000000 in
theorem s_X10_kernelX (l : Launch) (D : va_G) (G : Nat → Nat) (b0 : Nat) (τ : Nat → Nat) (f : hM) (t : TI G 9 τ f) (u0 : Nat) (hu0 : τ u0 = 10) (u1 : Int32) (hu1 : iv u1 (-2147483648) 2147483647) (u2 : Int32) (hu2 : iv u2 (-2147483648) 2147483647) (u3 : Int32) (hu3 : iv u3 (-2147483648) 2147483647) (bo : Nat) (hbo : τ bo = 12) (k_u0_1 : atp f u0 (fd 1 (.ref bo))) (sn : Nat) (hsn : τ sn = 15) (k_bo_1 : atp f bo (fd 1 (.ref sn))) (qn : Nat) (hqn : τ qn = 4) (k_sn_0 : atp f sn (fd 0 (.ref qn))) (sz : Int32) (hsz : iv sz 0 8) (k_sn_1 : atp f sn (fd 1 (.int sz))) (rn : Nat → Option Nat) (hRqn : atp f qn (eqr G 4 8 rn)) (bk : Nat → Int32) (hb9 : ∀ k : Nat, k < 80 → iv (bk k) 0 9) (hSO : ∀ j : Nat, (j : Int) < sz.toInt → ∃ q, rn j = some q ∧ SO G τ f q (fun k => bk (10 * j + k)))  : mI l yX10_kernel cX10_kernel 5 (.int) rm_s_X10_kernelX D G b0 f [.ref u0, .int u1, .int u2, .int u3] (fun r f1 => iv r (-1) 1000002 ∧ TI G 9 τ f1 ∧ Fr [] τ f f1 ∧ (((0 ≤ u1.toInt ∧ u1.toInt < sz.toInt) ∧ 1 ≤ u2.toInt ∧ u2.toInt ≤ 1000002 ∧ 1 ≤ u3.toInt ∧ u3.toInt ≤ 1000002 → r.toInt = ker (fun k : Int => (bk (10 * u1.toInt + k).toNat).toInt) u2.toInt u3.toInt) ∧ (¬ ((0 ≤ u1.toInt ∧ u1.toInt < sz.toInt) ∧ 1 ≤ u2.toInt ∧ u2.toInt ≤ 1000002 ∧ 1 ≤ u3.toInt ∧ u3.toInt ≤ 1000002) → r.toInt = -1))) := by
  refine met2 (own := RX10) (by decide) rfl (Nat.le_of_ble_eq_true rfl) ?_
  intro p e s m args below meth c ls Q hQ C hr hini hl h
  have hl : lv_has ls 5 [(0, .ref u0), (1, .int u1), (2, .int u2), (3, .int u3)] := hl
  obtain ⟨hx, hb, hml, hown, hts, hE0, hlk⟩ := id C
  have o := Fr.rf [] τ f
  refine lv_aload_n hx hb dX10_kernel_0 rfl (lv_at hl 0 rfl) ?_
  refine t_getfd C h t hu0 (by decide) wf_10 (v := .ref bo) k_u0_1 fl_X10_19 dX10_kernel_1 ?_
  refine lv_iload_n hx hb dX10_kernel_4 rfl (lv_at hl 1 rfl) ?_
  obtain ⟨_, r1⟩ := t_rec t hbo (by decide) wf_12
  refine k_q (r_V C h hl (As := [.int u1]) (rest := []) (s_X0_findX l D G b0 τ f t bo hbo u1 hu1 sn hsn k_bo_1 qn hqn k_sn_0 sz hsz k_sn_1 rn hRqn) r1 (Cn := RX0) (T := TX0) (N := 6) rfl rfl mk_X0_find w_594 w_595 w_596 w_597 ⟨Nat.le_of_ble_eq_true rfl, Nat.le_of_ble_eq_true rfl⟩ rfl (Nat.le_of_ble_eq_true rfl) ⟨Nat.le_of_ble_eq_true rfl, Nat.le_of_ble_eq_true rfl⟩ rfl dX10_kernel_5) h (fun r2 f3 H locs p4 h => ?_)
  obtain ⟨qr2, tf3, ogf3, x0r2⟩ := p4
  have egf3 := Fr.nil2 ogf3
  subst egf3
  have tr2 := qr2
  refine lv_astoreO (lv' := [(4, va_rf r2), (0, .ref u0), (1, .int u1), (2, .int u2), (3, .int u3)]) hx hb dX10_kernel_8 hl (by decide) rfl (fun ls hl => ?_)
  refine lv_aloadO hx hb dX10_kernel_10 (lv_at hl 0 rfl) ?_
  rcases va_rfc r2 with eq6 | ⟨q6, eq6⟩
  · subst eq6
    have nkr2 : ¬ (0 ≤ u1.toInt ∧ u1.toInt < sz.toInt) := fun z_ => by rw [if_pos z_] at x0r2; obtain ⟨q_, h_, -⟩ := hSO u1.toInt.toNat (by omega); rw [h_] at x0r2; cases x0r2
    have hl : lv_has ls 5 [(4, .null), (0, .ref u0), (1, .int u1), (2, .int u2), (3, .int u3)] := hl
    show W _ _ _ _ _ _ _ _ _ _ _ _ _ _ _ (F0 m 12 ls [.null])
    refine lv_ifnullN (tgt := 29) hx hb dX10_kernel_12 (by decide) ?_
    refine lv_iconst (v := -1) hx hb dX10_kernel_29 (by decide) ?_
    exact u_iret C h hr hQ (⟨⟨by decide, by decide⟩, t, o, ⟨fun z_ => absurd z_ (by omega), fun _ => rfl⟩⟩) (Nat.le_of_ble_eq_true rfl) (Nat.le_of_ble_eq_true rfl) dX10_kernel_30
  · subst eq6
    have tq6 : τ q6 = 1 := tr2 _ rfl
    have okr2 : (0 ≤ u1.toInt ∧ u1.toInt < sz.toInt) := by
      by_cases z_ : (0 ≤ u1.toInt ∧ u1.toInt < sz.toInt)
      · exact z_
      · rw [if_neg z_] at x0r2; cases x0r2
    rw [if_pos okr2] at x0r2
    obtain ⟨q_, h_, -, wqS1, wwS1, twS1, kwS1, krS1, hwS1, kxS1, kyS1⟩ := hSO u1.toInt.toNat (by omega)
    rw [← x0r2] at h_; cases h_
    have hwS1 : ∀ k : Nat, k < 8 → wwS1 k = bk (10 * u1.toInt.toNat + k) := hwS1
    have kxS1 : atp f q6 (fd 1 (.int (bk (10 * u1.toInt.toNat + 8)))) := kxS1
    have kyS1 : atp f q6 (fd 2 (.int (bk (10 * u1.toInt.toNat + 9)))) := kyS1
    obtain ⟨sxS1, esxS1, isxS1⟩ : ∃ z_ : Int32, z_ = bk (10 * u1.toInt.toNat + 8) ∧ iv z_ 0 9 := ⟨_, rfl, hb9 _ (by omega)⟩
    rw [← esxS1] at kxS1
    obtain ⟨syS1, esyS1, isyS1⟩ : ∃ z_ : Int32, z_ = bk (10 * u1.toInt.toNat + 9) ∧ iv z_ 0 9 := ⟨_, rfl, hb9 _ (by omega)⟩
    rw [← esyS1] at kyS1
    have hl : lv_has ls 5 [(4, .ref q6), (0, .ref u0), (1, .int u1), (2, .int u2), (3, .int u3)] := hl
    show W _ _ _ _ _ _ _ _ _ _ _ _ _ _ _ (F0 m 12 ls [.ref q6])
    refine lv_ifnull hx hb dX10_kernel_12 ?_
    refine lv_iload_n hx hb dX10_kernel_15 rfl (lv_at hl 3 rfl) ?_
    refine k_i (r_S C h hl (As := [.int u2]) (rest := []) (s_X10_isUnitX l D G b0 τ f t u2 hu2) mk_X10_isUnit w_941 w_942 w_943 ⟨Nat.le_of_ble_eq_true rfl, Nat.le_of_ble_eq_true rfl⟩ rfl (Nat.le_of_ble_eq_true rfl) ⟨Nat.le_of_ble_eq_true rfl, Nat.le_of_ble_eq_true rfl⟩ rfl dX10_kernel_16) h (fun r7 f8 H locs p9 h => ?_)
    obtain ⟨ir7, tf8, ogf8, cnr7, czr7⟩ := p9
    have egf8 := Fr.nil2 ogf8
    subst egf8
    refine lv_if_eq (tgt := 29) hx hb dX10_kernel_19 (by decide) (fun c10 => ?_) (fun c10 => ?_)
    · have c11 : r7.toInt = 0 := congrArg Int32.toInt c10
      have i12 : iv r7 0 0 := iv_Q c11 ir7 (iv_k (x := 0) (k := 0) rfl) (by decide)
      have i13 := czr7 c11
      refine lv_iconst (v := -1) hx hb dX10_kernel_29 (by decide) ?_
      exact u_iret C h hr hQ (⟨⟨by decide, by decide⟩, t, o, ⟨fun z_ => absurd z_ (by omega), fun _ => rfl⟩⟩) (Nat.le_of_ble_eq_true rfl) (Nat.le_of_ble_eq_true rfl) dX10_kernel_30
    · have c14 : r7.toInt ≠ 0 := fun z_ => c10 (Int32.toInt_inj.mp z_)
      have i15 : iv r7 1 1 := iv_Nl c14 ir7 (by decide)
      have i16 := cnr7 c14
      refine lv_iload_n hx hb dX10_kernel_22 rfl (lv_at hl 4 rfl) ?_
      refine k_i (r_S C h hl (As := [.int u3]) (rest := []) (s_X10_isUnitX l D G b0 τ f t u3 hu3) mk_X10_isUnit w_941 w_942 w_943 ⟨Nat.le_of_ble_eq_true rfl, Nat.le_of_ble_eq_true rfl⟩ rfl (Nat.le_of_ble_eq_true rfl) ⟨Nat.le_of_ble_eq_true rfl, Nat.le_of_ble_eq_true rfl⟩ rfl dX10_kernel_23) h (fun r17 f18 H locs p19 h => ?_)
      obtain ⟨ir17, tf18, ogf18, cnr17, czr17⟩ := p19
      have egf18 := Fr.nil2 ogf18
      subst egf18
      refine lv_if_ne (tgt := 31) hx hb dX10_kernel_26 (by decide) (fun c20 => ?_) (fun c20 => ?_)
      · have c21 : r17.toInt ≠ 0 := fun z_ => c20 (Int32.toInt_inj.mp z_)
        have i22 : iv r17 1 1 := iv_Nl c21 ir17 (by decide)
        have i23 := cnr17 c21
        refine lv_aload hx hb dX10_kernel_31 (lv_at hl 0 rfl) ?_
        refine lv_iload_n hx hb dX10_kernel_33 rfl (lv_at hl 3 rfl) ?_
        refine lv_iload_n hx hb dX10_kernel_34 rfl (lv_at hl 4 rfl) ?_
        refine k_i (r_S C h hl (As := [.ref q6, .int u2, .int u3]) (rest := []) (s_X8_kernelAtX l D G b0 τ f t q6 tq6 u2 (iv_w i16 (by decide)) u3 (iv_w i23 (by decide)) wqS1 twS1 kwS1 wwS1 krS1) mk_X8_kernelAt w_944 w_945 w_946 ⟨Nat.le_of_ble_eq_true rfl, Nat.le_of_ble_eq_true rfl⟩ rfl (Nat.le_of_ble_eq_true rfl) ⟨Nat.le_of_ble_eq_true rfl, Nat.le_of_ble_eq_true rfl⟩ rfl dX10_kernel_35) h (fun r27 f28 H locs p29 h => ?_)
        obtain ⟨ir27, tf28, ogf28, x0r27⟩ := p29
        have egf28 := Fr.nil2 ogf28
        subst egf28
        exact u_iret C h hr hQ (⟨(iv_w ir27 (by decide)), t, o, ⟨fun _ => (by rw [x0r27]; exact (ker_c (wf_bf hwS1 (by omega)) _ _)), fun z_ => absurd (by omega) z_⟩⟩) (Nat.le_of_ble_eq_true rfl) (Nat.le_of_ble_eq_true rfl) dX10_kernel_38
      · have c24 : r17.toInt = 0 := congrArg Int32.toInt c20
        have i25 : iv r17 0 0 := iv_Q c24 ir17 (iv_k (x := 0) (k := 0) rfl) (by decide)
        have i26 := czr17 c24
        refine lv_iconst (v := -1) hx hb dX10_kernel_29 (by decide) ?_
        exact u_iret C h hr hQ (⟨⟨by decide, by decide⟩, t, o, ⟨fun z_ => absurd z_ (by omega), fun _ => rfl⟩⟩) (Nat.le_of_ble_eq_true rfl) (Nat.le_of_ble_eq_true rfl) dX10_kernel_30
abbrev rm_s_X10_turnedX : Room := { frames := 3, cells := 0, slots := 0, locals := 71 }
set_option maxRecDepth 100000 in
set_option maxHeartbeats 4000000 in
theorem s_X10_turnedX (l : Launch) (D : va_G) (G : Nat → Nat) (b0 : Nat) (τ : Nat → Nat) (f : hM) (t : TI G 9 τ f) (u0 : Nat) (hu0 : τ u0 = 10) (u1 : Int32) (hu1 : iv u1 (-2147483648) 2147483647) (u2 : Int32) (hu2 : iv u2 (-2147483648) 2147483647) (u3 : Int32) (hu3 : iv u3 (-2147483648) 2147483647) (u4 : Int32) (hu4 : iv u4 (-2147483648) 2147483647) (bo : Nat) (hbo : τ bo = 12) (k_u0_1 : atp f u0 (fd 1 (.ref bo))) (sn : Nat) (hsn : τ sn = 15) (k_bo_1 : atp f bo (fd 1 (.ref sn))) (qn : Nat) (hqn : τ qn = 4) (k_sn_0 : atp f sn (fd 0 (.ref qn))) (sz : Int32) (hsz : iv sz 0 8) (k_sn_1 : atp f sn (fd 1 (.int sz))) (rn : Nat → Option Nat) (hRqn : atp f qn (eqr G 4 8 rn)) (bk : Nat → Int32) (hb9 : ∀ k : Nat, k < 80 → iv (bk k) 0 9) (hSO : ∀ j : Nat, (j : Int) < sz.toInt → ∃ q, rn j = some q ∧ SO G τ f q (fun k => bk (10 * j + k)))  : mI l yX10_turned cX10_turned 6 (.int) rm_s_X10_turnedX D G b0 f [.ref u0, .int u1, .int u2, .int u3, .int u4] (fun r f1 => iv r (-1) 1000002 ∧ TI G 9 τ f1 ∧ Fr [] τ f f1 ∧ (((0 ≤ u1.toInt ∧ u1.toInt < sz.toInt) ∧ (1 ≤ u2.toInt ∧ u2.toInt ≤ 1000002 ∧ 1 ≤ u3.toInt ∧ u3.toInt ≤ 1000002) ∧ 0 ≤ u4.toInt ∧ u4.toInt ≤ 1 → r.toInt = tw_ (fun k : Int => (bk (10 * u1.toInt + k).toNat).toInt) u2.toInt u3.toInt u4.toInt) ∧ (¬ ((0 ≤ u1.toInt ∧ u1.toInt < sz.toInt) ∧ (1 ≤ u2.toInt ∧ u2.toInt ≤ 1000002 ∧ 1 ≤ u3.toInt ∧ u3.toInt ≤ 1000002) ∧ 0 ≤ u4.toInt ∧ u4.toInt ≤ 1) → r.toInt = -1))) := by
  refine met2 (own := RX10) (by decide) rfl (Nat.le_of_ble_eq_true rfl) ?_
  intro p e s m args below meth c ls Q hQ C hr hini hl h
  have hl : lv_has ls 6 [(0, .ref u0), (1, .int u1), (2, .int u2), (3, .int u3), (4, .int u4)] := hl
  obtain ⟨hx, hb, hml, hown, hts, hE0, hlk⟩ := id C
  have o := Fr.rf [] τ f
  refine lv_aload_n hx hb dX10_turned_0 rfl (lv_at hl 0 rfl) ?_
  refine t_getfd C h t hu0 (by decide) wf_10 (v := .ref bo) k_u0_1 fl_X10_19 dX10_turned_1 ?_
  refine lv_iload_n hx hb dX10_turned_4 rfl (lv_at hl 1 rfl) ?_
  obtain ⟨_, r1⟩ := t_rec t hbo (by decide) wf_12
  refine k_q (r_V C h hl (As := [.int u1]) (rest := []) (s_X0_findX l D G b0 τ f t bo hbo u1 hu1 sn hsn k_bo_1 qn hqn k_sn_0 sz hsz k_sn_1 rn hRqn) r1 (Cn := RX0) (T := TX0) (N := 6) rfl rfl mk_X0_find w_594 w_595 w_596 w_597 ⟨Nat.le_of_ble_eq_true rfl, Nat.le_of_ble_eq_true rfl⟩ rfl (Nat.le_of_ble_eq_true rfl) ⟨Nat.le_of_ble_eq_true rfl, Nat.le_of_ble_eq_true rfl⟩ rfl dX10_turned_5) h (fun r2 f3 H locs p4 h => ?_)
  obtain ⟨qr2, tf3, ogf3, x0r2⟩ := p4
  have egf3 := Fr.nil2 ogf3
  subst egf3
  have tr2 := qr2
  refine lv_astoreO (lv' := [(5, va_rf r2), (0, .ref u0), (1, .int u1), (2, .int u2), (3, .int u3), (4, .int u4)]) hx hb dX10_turned_8 hl (by decide) rfl (fun ls hl => ?_)
  refine lv_aloadO hx hb dX10_turned_10 (lv_at hl 0 rfl) ?_
  rcases va_rfc r2 with eq6 | ⟨q6, eq6⟩
  · subst eq6
    have nkr2 : ¬ (0 ≤ u1.toInt ∧ u1.toInt < sz.toInt) := fun z_ => by rw [if_pos z_] at x0r2; obtain ⟨q_, h_, -⟩ := hSO u1.toInt.toNat (by omega); rw [h_] at x0r2; cases x0r2
    have hl : lv_has ls 6 [(5, .null), (0, .ref u0), (1, .int u1), (2, .int u2), (3, .int u3), (4, .int u4)] := hl
    show W _ _ _ _ _ _ _ _ _ _ _ _ _ _ _ (F0 m 12 ls [.null])
    refine lv_ifnullN (tgt := 39) hx hb dX10_turned_12 (by decide) ?_
    refine lv_iconst (v := -1) hx hb dX10_turned_39 (by decide) ?_
    exact u_iret C h hr hQ (⟨⟨by decide, by decide⟩, t, o, ⟨fun z_ => absurd z_ (by omega), fun _ => rfl⟩⟩) (Nat.le_of_ble_eq_true rfl) (Nat.le_of_ble_eq_true rfl) dX10_turned_40
  · subst eq6
    have tq6 : τ q6 = 1 := tr2 _ rfl
    have okr2 : (0 ≤ u1.toInt ∧ u1.toInt < sz.toInt) := by
      by_cases z_ : (0 ≤ u1.toInt ∧ u1.toInt < sz.toInt)
      · exact z_
      · rw [if_neg z_] at x0r2; cases x0r2
    rw [if_pos okr2] at x0r2
    obtain ⟨q_, h_, -, wqS1, wwS1, twS1, kwS1, krS1, hwS1, kxS1, kyS1⟩ := hSO u1.toInt.toNat (by omega)
    rw [← x0r2] at h_; cases h_
    have hwS1 : ∀ k : Nat, k < 8 → wwS1 k = bk (10 * u1.toInt.toNat + k) := hwS1
    have kxS1 : atp f q6 (fd 1 (.int (bk (10 * u1.toInt.toNat + 8)))) := kxS1
    have kyS1 : atp f q6 (fd 2 (.int (bk (10 * u1.toInt.toNat + 9)))) := kyS1
    obtain ⟨sxS1, esxS1, isxS1⟩ : ∃ z_ : Int32, z_ = bk (10 * u1.toInt.toNat + 8) ∧ iv z_ 0 9 := ⟨_, rfl, hb9 _ (by omega)⟩
    rw [← esxS1] at kxS1
    obtain ⟨syS1, esyS1, isyS1⟩ : ∃ z_ : Int32, z_ = bk (10 * u1.toInt.toNat + 9) ∧ iv z_ 0 9 := ⟨_, rfl, hb9 _ (by omega)⟩
    rw [← esyS1] at kyS1
    have hl : lv_has ls 6 [(5, .ref q6), (0, .ref u0), (1, .int u1), (2, .int u2), (3, .int u3), (4, .int u4)] := hl
    show W _ _ _ _ _ _ _ _ _ _ _ _ _ _ _ (F0 m 12 ls [.ref q6])
    refine lv_ifnull hx hb dX10_turned_12 ?_
    refine lv_iload_n hx hb dX10_turned_15 rfl (lv_at hl 3 rfl) ?_
    refine k_i (r_S C h hl (As := [.int u2]) (rest := []) (s_X10_isUnitX l D G b0 τ f t u2 hu2) mk_X10_isUnit w_941 w_942 w_943 ⟨Nat.le_of_ble_eq_true rfl, Nat.le_of_ble_eq_true rfl⟩ rfl (Nat.le_of_ble_eq_true rfl) ⟨Nat.le_of_ble_eq_true rfl, Nat.le_of_ble_eq_true rfl⟩ rfl dX10_turned_16) h (fun r7 f8 H locs p9 h => ?_)
    obtain ⟨ir7, tf8, ogf8, cnr7, czr7⟩ := p9
    have egf8 := Fr.nil2 ogf8
    subst egf8
    refine lv_if_eq (tgt := 39) hx hb dX10_turned_19 (by decide) (fun c10 => ?_) (fun c10 => ?_)
    · have c11 : r7.toInt = 0 := congrArg Int32.toInt c10
      have i12 : iv r7 0 0 := iv_Q c11 ir7 (iv_k (x := 0) (k := 0) rfl) (by decide)
      have i13 := czr7 c11
      refine lv_iconst (v := -1) hx hb dX10_turned_39 (by decide) ?_
      exact u_iret C h hr hQ (⟨⟨by decide, by decide⟩, t, o, ⟨fun z_ => absurd z_ (by omega), fun _ => rfl⟩⟩) (Nat.le_of_ble_eq_true rfl) (Nat.le_of_ble_eq_true rfl) dX10_turned_40
    · have c14 : r7.toInt ≠ 0 := fun z_ => c10 (Int32.toInt_inj.mp z_)
      have i15 : iv r7 1 1 := iv_Nl c14 ir7 (by decide)
      have i16 := cnr7 c14
      refine lv_iload_n hx hb dX10_turned_22 rfl (lv_at hl 4 rfl) ?_
      refine k_i (r_S C h hl (As := [.int u3]) (rest := []) (s_X10_isUnitX l D G b0 τ f t u3 hu3) mk_X10_isUnit w_941 w_942 w_943 ⟨Nat.le_of_ble_eq_true rfl, Nat.le_of_ble_eq_true rfl⟩ rfl (Nat.le_of_ble_eq_true rfl) ⟨Nat.le_of_ble_eq_true rfl, Nat.le_of_ble_eq_true rfl⟩ rfl dX10_turned_23) h (fun r17 f18 H locs p19 h => ?_)
      obtain ⟨ir17, tf18, ogf18, cnr17, czr17⟩ := p19
      have egf18 := Fr.nil2 ogf18
      subst egf18
      refine lv_if_eq (tgt := 39) hx hb dX10_turned_26 (by decide) (fun c20 => ?_) (fun c20 => ?_)
      · have c21 : r17.toInt = 0 := congrArg Int32.toInt c20
        have i22 : iv r17 0 0 := iv_Q c21 ir17 (iv_k (x := 0) (k := 0) rfl) (by decide)
        have i23 := czr17 c21
        refine lv_iconst (v := -1) hx hb dX10_turned_39 (by decide) ?_
        exact u_iret C h hr hQ (⟨⟨by decide, by decide⟩, t, o, ⟨fun z_ => absurd z_ (by omega), fun _ => rfl⟩⟩) (Nat.le_of_ble_eq_true rfl) (Nat.le_of_ble_eq_true rfl) dX10_turned_40
      · have c24 : r17.toInt ≠ 0 := fun z_ => c20 (Int32.toInt_inj.mp z_)
        have i25 : iv r17 1 1 := iv_Nl c24 ir17 (by decide)
        have i26 := cnr17 c24
        refine lv_iload hx hb dX10_turned_29 (lv_at hl 5 rfl) ?_
        refine lv_iconst (v := 0) hx hb dX10_turned_31 (by decide) ?_
        refine lv_iconst (v := 1) hx hb dX10_turned_32 (by decide) ?_
        refine k_i (r_S C h hl (As := [.int u4, .int 0, .int 1]) (rest := []) (s_X10_within l D G b0 τ f t u4 hu4 0 (iv_w (iv_k (x := 0) (k := 0) rfl) (by decide)) 1 (iv_w (iv_k (x := 1) (k := 1) rfl) (by decide))) mk_X10_within w_425 w_426 w_427 ⟨Nat.le_of_ble_eq_true rfl, Nat.le_of_ble_eq_true rfl⟩ rfl (Nat.le_of_ble_eq_true rfl) ⟨Nat.le_of_ble_eq_true rfl, Nat.le_of_ble_eq_true rfl⟩ rfl dX10_turned_33) h (fun r27 f28 H locs p29 h => ?_)
        have n30 : (0 : Int32).toInt = 0 := rfl
        have n31 : (1 : Int32).toInt = 1 := rfl
        obtain ⟨ir27, tf28, ogf28, cnr27, czr27⟩ := p29
        have egf28 := Fr.nil2 ogf28
        subst egf28
        refine lv_if_ne (tgt := 41) hx hb dX10_turned_36 (by decide) (fun c32 => ?_) (fun c32 => ?_)
        · have c33 : r27.toInt ≠ 0 := fun z_ => c32 (Int32.toInt_inj.mp z_)
          have i34 : iv r27 1 1 := iv_Nl c33 ir27 (by decide)
          obtain ⟨i35, i36⟩ := cnr27 c33
          have i37 : iv u4 0 1 := ⟨by omega, by omega⟩
          refine lv_iload hx hb dX10_turned_41 (lv_at hl 5 rfl) ?_
          refine lv_if_ne (tgt := 56) hx hb dX10_turned_43 (by decide) (fun c41 => ?_) (fun c41 => ?_)
          · have c42 : u4.toInt ≠ 0 := fun z_ => c41 (Int32.toInt_inj.mp z_)
            have i43 : iv u4 1 1 := iv_Nl c42 i37 (by decide)
            refine lv_aload hx hb dX10_turned_56 (lv_at hl 0 rfl) ?_
            refine lv_iload_n hx hb dX10_turned_58 rfl (lv_at hl 3 rfl) ?_
            refine lv_iload_n hx hb dX10_turned_59 rfl (lv_at hl 4 rfl) ?_
            refine k_i (r_S C h hl (As := [.ref q6, .int u2, .int u3]) (rest := []) (s_X8_newYX l D G b0 τ f t q6 tq6 u2 (iv_w i16 (by decide)) u3 (iv_w i26 (by decide)) wqS1 twS1 kwS1 wwS1 krS1) mk_X8_newY w_963 w_964 w_965 ⟨Nat.le_of_ble_eq_true rfl, Nat.le_of_ble_eq_true rfl⟩ rfl (Nat.le_of_ble_eq_true rfl) ⟨Nat.le_of_ble_eq_true rfl, Nat.le_of_ble_eq_true rfl⟩ rfl dX10_turned_60) h (fun r46 f47 H locs p48 h => ?_)
            obtain ⟨ir46, tf47, ogf47, x0r46⟩ := p48
            have egf47 := Fr.nil2 ogf47
            subst egf47
            exact u_iret C h hr hQ (⟨ir46, t, o, ⟨fun _ => (by rw [x0r46]; unfold tw_; rw [if_neg (by omega)]; exact (tY_c (wf_bf hwS1 (by omega)) _ _)), fun z_ => absurd (by omega) z_⟩⟩) (Nat.le_of_ble_eq_true rfl) (Nat.le_of_ble_eq_true rfl) dX10_turned_63
          · have c44 : u4.toInt = 0 := congrArg Int32.toInt c41
            have i45 : iv u4 0 0 := iv_Q c44 i37 (iv_k (x := 0) (k := 0) rfl) (by decide)
            refine lv_aload hx hb dX10_turned_46 (lv_at hl 0 rfl) ?_
            refine lv_iload_n hx hb dX10_turned_48 rfl (lv_at hl 3 rfl) ?_
            refine lv_iload_n hx hb dX10_turned_49 rfl (lv_at hl 4 rfl) ?_
            refine k_i (r_S C h hl (As := [.ref q6, .int u2, .int u3]) (rest := []) (s_X8_newXX l D G b0 τ f t q6 tq6 u2 (iv_w i16 (by decide)) u3 (iv_w i26 (by decide)) wqS1 twS1 kwS1 wwS1 krS1) mk_X8_newX w_957 w_958 w_959 ⟨Nat.le_of_ble_eq_true rfl, Nat.le_of_ble_eq_true rfl⟩ rfl (Nat.le_of_ble_eq_true rfl) ⟨Nat.le_of_ble_eq_true rfl, Nat.le_of_ble_eq_true rfl⟩ rfl dX10_turned_50) h (fun r49 f50 H locs p51 h => ?_)
            obtain ⟨ir49, tf50, ogf50, x0r49⟩ := p51
            have egf50 := Fr.nil2 ogf50
            subst egf50
            refine lv_goto (tgt := 63) hx hb dX10_turned_53 (by decide) ?_
            exact u_iret C h hr hQ (⟨ir49, t, o, ⟨fun _ => (by rw [x0r49]; unfold tw_; rw [if_pos (by omega)]; exact (tX_c (wf_bf hwS1 (by omega)) _ _)), fun z_ => absurd (by omega) z_⟩⟩) (Nat.le_of_ble_eq_true rfl) (Nat.le_of_ble_eq_true rfl) dX10_turned_63
        · have c38 : r27.toInt = 0 := congrArg Int32.toInt c32
          have i39 : iv r27 0 0 := iv_Q c38 ir27 (iv_k (x := 0) (k := 0) rfl) (by decide)
          have i40 := czr27 c38
          refine lv_iconst (v := -1) hx hb dX10_turned_39 (by decide) ?_
          exact u_iret C h hr hQ (⟨⟨by decide, by decide⟩, t, o, ⟨fun z_ => absurd z_ (by omega), fun _ => rfl⟩⟩) (Nat.le_of_ble_eq_true rfl) (Nat.le_of_ble_eq_true rfl) dX10_turned_40
