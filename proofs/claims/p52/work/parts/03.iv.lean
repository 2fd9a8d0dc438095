/-! ===== ints by intervals ===== -/
def iv (a : Int32) (l h : Int) : Prop := l ≤ a.toInt ∧ a.toInt ≤ h
theorem iv_rng (x : Int32) : -2147483648 ≤ x.toInt ∧ x.toInt < 2147483648 := ⟨Int32.le_toInt x, Int32.toInt_lt x⟩
theorem iv_any (x : Int32) : iv x (-2147483648) 2147483647 := ⟨(iv_rng x).1, by have := (iv_rng x).2; omega⟩
theorem iv_bm {z : Int} (h1 : -2147483648 ≤ z) (h2 : z ≤ 2147483647) : z.bmod (2 ^ 32) = z := by
  rw [Int.bmod_def]; split <;> omega
theorem iv_add {a b : Int32} {l1 h1 l2 h2 : Int} (ha : iv a l1 h1) (hb : iv b l2 h2) (h : -2147483648 ≤ l1 + l2 ∧ h1 + h2 ≤ 2147483647) : iv (a + b) (l1 + l2) (h1 + h2) := by
  unfold iv at *
  rw [Int32.toInt_add, iv_bm (by omega) (by omega)]; omega
theorem iv_sub {a b : Int32} {l1 h1 l2 h2 : Int} (ha : iv a l1 h1) (hb : iv b l2 h2) (h : -2147483648 ≤ l1 - h2 ∧ h1 - l2 ≤ 2147483647) : iv (a - b) (l1 - h2) (h1 - l2) := by
  unfold iv at *
  rw [Int32.toInt_sub, iv_bm (by omega) (by omega)]; omega
theorem iv_mulc {a b : Int32} {l1 h1 k : Int} (ha : iv a l1 h1) (hb : b.toInt = k) (hk : 0 ≤ k) (h : -2147483648 ≤ l1 * k ∧ h1 * k ≤ 2147483647) : iv (a * b) (l1 * k) (h1 * k) := by
  unfold iv at *
  have q1 : l1 * k ≤ a.toInt * k := Int.mul_le_mul_of_nonneg_right ha.1 hk
  have q2 : a.toInt * k ≤ h1 * k := Int.mul_le_mul_of_nonneg_right ha.2 hk
  rw [Int32.toInt_mul, hb, iv_bm (by omega) (by omega)]; exact ⟨q1, q2⟩
theorem iv_cmul {a b : Int32} {l1 h1 k : Int} (hb : b.toInt = k) (ha : iv a l1 h1) (hk : 0 ≤ k) (h : -2147483648 ≤ l1 * k ∧ h1 * k ≤ 2147483647) : iv (b * a) (l1 * k) (h1 * k) := by
  rw [Int32.mul_comm]; exact iv_mulc ha hb hk h
theorem iv_mulp {a b : Int32} {l1 h1 l2 h2 : Int} (ha : iv a l1 h1) (hb : iv b l2 h2) (h : 0 ≤ l1 ∧ 0 ≤ l2 ∧ h1 * h2 ≤ 2147483647) : iv (a * b) (l1 * l2) (h1 * h2) := by
  unfold iv at *
  have q1 : l1 * l2 ≤ a.toInt * b.toInt := Int.mul_le_mul ha.1 hb.1 h.2.1 (by omega)
  have q2 : a.toInt * b.toInt ≤ h1 * h2 := Int.mul_le_mul ha.2 hb.2 (by omega) (by omega)
  have q3 : 0 ≤ l1 * l2 := Int.mul_nonneg h.1 h.2.1
  rw [Int32.toInt_mul, iv_bm (by omega) (by omega)]; exact ⟨q1, q2⟩
theorem iv_w {a : Int32} {l h l' h' : Int} (ha : iv a l h) (q : l' ≤ l ∧ h ≤ h') : iv a l' h' := ⟨Int.le_trans q.1 ha.1, Int.le_trans ha.2 q.2⟩
theorem iv_in {a : Int32} {l h : Int} {n : Nat} (ha : iv a l h) (q : 0 ≤ l ∧ h < (n : Int)) : vp_in a n := vp_in_iff.mpr ⟨Int.le_trans q.1 ha.1, Int.lt_of_le_of_lt ha.2 q.2⟩
theorem iv_cl {a : Int32} {l h : Int} {n : Nat} (ha : iv a l h) (q : 0 ≤ l ∧ h < (n : Int)) : a.toNatClampNeg < n := Nat.not_le.mp fun z => iv_in ha q (Or.inr z)
theorem iv_ltL {a b : Int32} {l1 h1 l2 h2 : Int} (c : a < b) (ha : iv a l1 h1) (hb : iv b l2 h2) : iv a l1 (h2 - 1) := by
  unfold iv at *; rw [Int32.lt_iff_toInt_lt] at c; omega
theorem iv_ltR {a b : Int32} {l1 h1 l2 h2 : Int} (c : a < b) (ha : iv a l1 h1) (hb : iv b l2 h2) : iv b (l1 + 1) h2 := by
  unfold iv at *; rw [Int32.lt_iff_toInt_lt] at c; omega
theorem iv_leL {a b : Int32} {l1 h1 l2 h2 : Int} (c : a ≤ b) (ha : iv a l1 h1) (hb : iv b l2 h2) : iv a l1 h2 := by
  unfold iv at *; rw [Int32.le_iff_toInt_le] at c; omega
theorem iv_leR {a b : Int32} {l1 h1 l2 h2 : Int} (c : a ≤ b) (ha : iv a l1 h1) (hb : iv b l2 h2) : iv b l1 h2 := by
  unfold iv at *; rw [Int32.le_iff_toInt_le] at c; omega
theorem iv_nlt {a b : Int32} (c : ¬ a < b) : b ≤ a := by rw [Int32.lt_iff_toInt_lt] at c; rw [Int32.le_iff_toInt_le]; omega
theorem iv_nle {a b : Int32} (c : ¬ a ≤ b) : b < a := by rw [Int32.le_iff_toInt_le] at c; rw [Int32.lt_iff_toInt_lt]; omega
theorem iv_eqL {a b : Int32} {l h : Int} (c : a = b) (hb : iv b l h) : iv a l h := by rw [c]; exact hb
theorem iv_neL {a b : Int32} {l h : Int} (c : ¬ a = b) (ha : iv a l h) (hb : b.toInt = l) : iv a (l + 1) h := by
  unfold iv at *
  have : a.toInt ≠ l := fun e => c (Int32.toInt_inj.mp (e.trans hb.symm))
  omega
theorem iv_neH {a b : Int32} {l h : Int} (c : ¬ a = b) (ha : iv a l h) (hb : b.toInt = h) : iv a l (h - 1) := by
  unfold iv at *
  have : a.toInt ≠ h := fun e => c (Int32.toInt_inj.mp (e.trans hb.symm))
  omega
theorem iv_no {a b : Int32} {l1 h1 l2 h2 : Int} (c : a < b) (ha : iv a l1 h1) (hb : iv b l2 h2) (q : h2 ≤ l1) : False := by
  unfold iv at *; rw [Int32.lt_iff_toInt_lt] at c; omega
theorem iv_nol {a b : Int32} {l1 h1 l2 h2 : Int} (c : a ≤ b) (ha : iv a l1 h1) (hb : iv b l2 h2) (q : h2 < l1) : False := by
  unfold iv at *; rw [Int32.le_iff_toInt_le] at c; omega
theorem iv_noe {a b : Int32} {l1 h1 l2 h2 : Int} (c : a = b) (ha : iv a l1 h1) (hb : iv b l2 h2) (q : h2 < l1 ∨ h1 < l2) : False := by
  unfold iv at *; rw [c] at ha; omega
/-- a counter that goes up by k comes nearer to its bound -/
theorem iv_up {a b : Int32} {l h k B : Int} {n : Nat} (ha : iv a l h) (hb : b.toInt = k) (hk : 1 ≤ k) (q : h + k ≤ 2147483647 ∧ -2147483648 ≤ l) (hm : B - a.toInt < ((n + 1 : Nat) : Int)) : B - (a + b).toInt < (n : Int) := by
  unfold iv at *
  rw [Int32.toInt_add, hb, iv_bm (by omega) (by omega)]; omega
theorem iv_dn {a b : Int32} {l h k B : Int} {n : Nat} (ha : iv a l h) (hb : b.toInt = -k) (hk : 1 ≤ k) (q : h ≤ 2147483647 ∧ -2147483648 ≤ l - k) (hm : a.toInt - B < ((n + 1 : Nat) : Int)) : (a + b).toInt - B < (n : Int) := by
  unfold iv at *
  rw [Int32.toInt_add, hb, iv_bm (by omega) (by omega)]; omega
/-- the frame: what was there, S apart, is as it was -/
def Fr (S : List Nat) (f g : hM) : Prop := ∀ q, f q ≠ none → (∀ a ∈ S, q ≠ a) → g q = f q
theorem fr_rf (S : List Nat) (f : hM) : Fr S f f := fun _ _ _ => rfl
theorem fr_up {S : List Nat} {f0 f g : hM} {a : Nat} {v : va_E} (e : hu f a v = g) (ha : a ∈ S) (o : Fr S f0 f) : Fr S f0 g := fun q h1 h2 => by
  rw [← e, hu_ne (h2 a ha)]; exact o q h1 h2
theorem fr_new {S : List Nat} {f0 f g : hM} {a : Nat} {v : va_E} (e : hu f a v = g) (ha : f0 a = none) (o : Fr S f0 f) : Fr S f0 g := fun q h1 h2 => by
  rw [← e, hu_ne (fun z => h1 (by rw [z]; exact ha))]; exact o q h1 h2
theorem fr_call {S S1 : List Nat} {f0 f g : hM} (hp : Fr S1 f g) (hs : ∀ a ∈ S1, a ∈ S ∨ f0 a = none) (o : Fr S f0 f) : Fr S f0 g := fun q h1 h2 => by
  have h3 := o q h1 h2
  rw [hp q (by rw [h3]; exact h1) (fun a ha => (hs a ha).elim (fun z => h2 a z) (fun z e => h1 (by rw [e]; exact z)))]; exact h3
theorem fr_at {S : List Nat} {f g : hM} {b : Nat} {v : va_E} (hp : Fr S f g) (hb : f b = some v) (hn : ∀ a ∈ S, b ≠ a) : g b = some v := (hp b (by rw [hb]; exact fun z => by cases z) hn).trans hb
theorem iv_remp {x y : Int32} {h k : Int} (hx : iv x 0 h) (hy : y.toInt = k) (hk : 0 < k) : iv (x - x / y * y) 0 (k - 1) := by
  unfold iv at *
  rw [rem_toInt, hy, Int.tmod_eq_emod_of_nonneg hx.1]
  have h1 := Int.emod_nonneg x.toInt (b := k) (by omega)
  have h2 := Int.emod_lt_of_pos x.toInt hk
  omega
theorem iv_divp {x y : Int32} {h k : Int} (hx : iv x 0 h) (hy : y.toInt = k) (hk : 0 < k) : iv (x / y) 0 h := by
  unfold iv at *
  have e : (x / y).toInt = x.toInt.tdiv k := by
    rw [Int32.toInt_div_of_ne_right _ _ (fun e => by rw [e] at hy; have : (-1 : Int32).toInt = -1 := rfl; omega), hy]
  rw [e, Int.tdiv_eq_ediv_of_nonneg hx.1]
  have h1 := Int.ediv_nonneg hx.1 (Int.le_of_lt hk)
  have h2 := Int.ediv_le_self k hx.1
  omega
