/-! ===== second layer: ints by intervals, cells by tags ===== -/
abbrev iv (a : Int32) (l h : Int) : Prop := l ≤ a.toInt ∧ a.toInt ≤ h
abbrev ivl (a : Int64) (l h : Int) : Prop := l ≤ a.toInt ∧ a.toInt ≤ h
theorem iv_rng (x : Int32) : -2147483648 ≤ x.toInt ∧ x.toInt < 2147483648 := ⟨Int32.le_toInt x, Int32.toInt_lt x⟩
theorem iv_any (x : Int32) : iv x (-2147483648) 2147483647 := ⟨(iv_rng x).1, by have := (iv_rng x).2; omega⟩
theorem ivl_any (x : Int64) : ivl x (-9223372036854775808) 9223372036854775807 := ⟨Int64.le_toInt x, by have := Int64.toInt_lt x; omega⟩
theorem iv_k {x : Int32} {k : Int} (h : x.toInt = k) : iv x k k := ⟨Int.le_of_eq h.symm, Int.le_of_eq h⟩
theorem ivl_k {x : Int64} {k : Int} (h : x.toInt = k) : ivl x k k := ⟨Int.le_of_eq h.symm, Int.le_of_eq h⟩
theorem iv_bm {z : Int} (h1 : -2147483648 ≤ z) (h2 : z ≤ 2147483647) : z.bmod (2 ^ 32) = z := by
  rw [Int.bmod_def]; split <;> omega
theorem iv_w {a : Int32} {l h l' h' : Int} (ha : iv a l h) (q : l' ≤ l ∧ h ≤ h') : iv a l' h' := ⟨Int.le_trans q.1 ha.1, Int.le_trans ha.2 q.2⟩
theorem ivl_w {a : Int64} {l h l' h' : Int} (ha : ivl a l h) (q : l' ≤ l ∧ h ≤ h') : ivl a l' h' := ⟨Int.le_trans q.1 ha.1, Int.le_trans ha.2 q.2⟩
theorem iv_addE {a b : Int32} {l1 h1 l2 h2 : Int} (ha : iv a l1 h1) (hb : iv b l2 h2) (h : -2147483648 ≤ l1 + l2 ∧ h1 + h2 ≤ 2147483647) : (a + b).toInt = a.toInt + b.toInt := by
  rw [Int32.toInt_add, iv_bm (by omega) (by omega)]
theorem iv_subE {a b : Int32} {l1 h1 l2 h2 : Int} (ha : iv a l1 h1) (hb : iv b l2 h2) (h : -2147483648 ≤ l1 - h2 ∧ h1 - l2 ≤ 2147483647) : (a - b).toInt = a.toInt - b.toInt := by
  rw [Int32.toInt_sub, iv_bm (by omega) (by omega)]
theorem iv_mulcE {a b : Int32} {l1 h1 k : Int} (ha : iv a l1 h1) (hb : b.toInt = k) (hk : 0 ≤ k) (h : -2147483648 ≤ l1 * k ∧ h1 * k ≤ 2147483647) : (a * b).toInt = a.toInt * k ∧ iv (a * b) (l1 * k) (h1 * k) := by
  have q1 : l1 * k ≤ a.toInt * k := Int.mul_le_mul_of_nonneg_right ha.1 hk
  have q2 : a.toInt * k ≤ h1 * k := Int.mul_le_mul_of_nonneg_right ha.2 hk
  have e : (a * b).toInt = a.toInt * k := by rw [Int32.toInt_mul, hb, iv_bm (by omega) (by omega)]
  exact ⟨e, by rw [iv, e]; exact ⟨q1, q2⟩⟩
theorem iv_mulp {a b : Int32} {l1 h1 l2 h2 : Int} (ha : iv a l1 h1) (hb : iv b l2 h2) (h : 0 ≤ l1 ∧ 0 ≤ l2 ∧ h1 * h2 ≤ 2147483647) : iv (a * b) (l1 * l2) (h1 * h2) := by
  have q1 : l1 * l2 ≤ a.toInt * b.toInt := Int.mul_le_mul ha.1 hb.1 h.2.1 (by omega)
  have q2 : a.toInt * b.toInt ≤ h1 * h2 := Int.mul_le_mul ha.2 hb.2 (by omega) (by omega)
  have q3 : 0 ≤ l1 * l2 := Int.mul_nonneg h.1 h.2.1
  rw [iv, Int32.toInt_mul, iv_bm (by omega) (by omega)]; exact ⟨q1, q2⟩
theorem iv_muls {a b : Int32} {k1 k2 : Int} (ha : iv a (-k1) k1) (hb : iv b (-k2) k2) (h : 0 ≤ k1 ∧ 0 ≤ k2 ∧ k1 * k2 ≤ 2147483647) : iv (a * b) (-(k1 * k2)) (k1 * k2) := by
  have ea : a.toInt.natAbs ≤ k1.toNat := by omega
  have eb : b.toInt.natAbs ≤ k2.toNat := by omega
  have q : (a.toInt * b.toInt).natAbs ≤ k1.toNat * k2.toNat := by rw [Int.natAbs_mul]; exact Nat.mul_le_mul ea eb
  have e : ((k1.toNat * k2.toNat : Nat) : Int) = k1 * k2 := by rw [Int.natCast_mul, Int.toNat_of_nonneg h.1, Int.toNat_of_nonneg h.2.1]
  rw [iv, Int32.toInt_mul, iv_bm (by omega) (by omega)]; omega
theorem iv_in {a : Int32} {l h : Int} {n : Nat} (ha : iv a l h) (q : 0 ≤ l ∧ h < (n : Int)) : vp_in a n := vp_in_iff.mpr ⟨Int.le_trans q.1 ha.1, Int.lt_of_le_of_lt ha.2 q.2⟩
theorem iv_cl {a : Int32} {l h : Int} {n : Nat} (ha : iv a l h) (q : 0 ≤ l ∧ h < (n : Int)) : a.toNatClampNeg < n := Nat.not_le.mp fun z => iv_in ha q (Or.inr z)
theorem iv_nz {a : Int32} {l h : Int} (ha : iv a l h) (q : 0 < l ∨ h < 0) : ¬ a = 0 := fun z => by rw [z, iv, Int32.toInt_zero] at ha; omega
theorem ivl_nz {a : Int64} {l h : Int} (ha : ivl a l h) (q : 0 < l ∨ h < 0) : ¬ a = 0 := fun z => by rw [z, ivl, Int64.toInt_zero] at ha; omega
theorem iv_ltL {a b : Int32} {l1 h1 l2 h2 : Int} (c : a < b) (ha : iv a l1 h1) (hb : iv b l2 h2) : iv a l1 (h2 - 1) := by rw [Int32.lt_iff_toInt_lt] at c; omega
theorem iv_ltR {a b : Int32} {l1 h1 l2 h2 : Int} (c : a < b) (ha : iv a l1 h1) (hb : iv b l2 h2) : iv b (l1 + 1) h2 := by rw [Int32.lt_iff_toInt_lt] at c; omega
theorem iv_leL {a b : Int32} {l1 h1 l2 h2 : Int} (c : a ≤ b) (ha : iv a l1 h1) (hb : iv b l2 h2) : iv a l1 h2 := by rw [Int32.le_iff_toInt_le] at c; omega
theorem iv_leR {a b : Int32} {l1 h1 l2 h2 : Int} (c : a ≤ b) (ha : iv a l1 h1) (hb : iv b l2 h2) : iv b l1 h2 := by rw [Int32.le_iff_toInt_le] at c; omega
theorem iv_nlt {a b : Int32} (c : ¬ a < b) : b ≤ a := by rw [Int32.lt_iff_toInt_lt] at c; rw [Int32.le_iff_toInt_le]; omega
theorem iv_nle {a b : Int32} (c : ¬ a ≤ b) : b < a := by rw [Int32.le_iff_toInt_le] at c; rw [Int32.lt_iff_toInt_lt]; omega
theorem iv_eqL {a b : Int32} {l h : Int} (c : a = b) (hb : iv b l h) : iv a l h := by rw [c]; exact hb
theorem iv_neL {a b : Int32} {l h : Int} (c : ¬ a = b) (ha : iv a l h) (hb : b.toInt = l) : iv a (l + 1) h := by
  have : a.toInt ≠ l := fun e => c (Int32.toInt_inj.mp (e.trans hb.symm))
  omega
theorem iv_neH {a b : Int32} {l h : Int} (c : ¬ a = b) (ha : iv a l h) (hb : b.toInt = h) : iv a l (h - 1) := by
  have : a.toInt ≠ h := fun e => c (Int32.toInt_inj.mp (e.trans hb.symm))
  omega
theorem iv_no {a b : Int32} {l1 h1 l2 h2 : Int} (c : a < b) (ha : iv a l1 h1) (hb : iv b l2 h2) (q : h2 ≤ l1) : False := by rw [Int32.lt_iff_toInt_lt] at c; omega
theorem iv_nol {a b : Int32} {l1 h1 l2 h2 : Int} (c : a ≤ b) (ha : iv a l1 h1) (hb : iv b l2 h2) (q : h2 < l1) : False := by rw [Int32.le_iff_toInt_le] at c; omega
theorem iv_noe {a b : Int32} {l1 h1 l2 h2 : Int} (c : a = b) (ha : iv a l1 h1) (hb : iv b l2 h2) (q : h2 < l1 ∨ h1 < l2) : False := by rw [c] at ha; omega
theorem iv_none {a b : Int32} {k : Int} (c : ¬ a = b) (ha : iv a k k) (hb : iv b k k) : False := c (Int32.toInt_inj.mp (by omega))
theorem iv_mt {a : Int32} {l h : Int} (ha : iv a l h) (q : h < l) : False := by omega
/-- measures -/
theorem iv_up0 {a : Int32} {l h B : Int} (ha : iv a l h) (q : h ≤ B) (hm : B - a.toInt < ((0 : Nat) : Int)) : False := by omega
theorem iv_dn0 {a : Int32} {l h B : Int} (ha : iv a l h) (q : B ≤ l) (hm : a.toInt - B < ((0 : Nat) : Int)) : False := by omega
theorem iv_upS {a z : Int32} {B k : Int} {n : Nat} (e : z.toInt = a.toInt + k) (hk : 1 ≤ k) (hm : B - a.toInt < ((n + 1 : Nat) : Int)) : B - z.toInt < (n : Int) := by omega
theorem iv_dnS {a z : Int32} {B k : Int} {n : Nat} (e : z.toInt = a.toInt + k) (hk : k ≤ -1) (hm : a.toInt - B < ((n + 1 : Nat) : Int)) : z.toInt - B < (n : Int) := by omega
theorem iv_upI {a : Int32} {l h B : Int} {n : Nat} (ha : iv a l h) (q : B - l < (n : Int)) : B - a.toInt < (n : Int) := by omega
theorem iv_dnI {a : Int32} {l h B : Int} {n : Nat} (ha : iv a l h) (q : h - B < (n : Int)) : a.toInt - B < (n : Int) := by omega
theorem iv_remp {x y : Int32} {h k : Int} (hx : iv x 0 h) (hy : y.toInt = k) (hk : 0 < k) : iv (x - x / y * y) 0 (k - 1) := by
  rw [iv, rem_toInt, hy, Int.tmod_eq_emod_of_nonneg hx.1]
  have h1 := Int.emod_nonneg x.toInt (b := k) (by omega)
  have h2 := Int.emod_lt_of_pos x.toInt hk
  omega
theorem iv_remq {x y : Int32} {h l2 h2 : Int} (hx : iv x 0 h) (hy : iv y l2 h2) (hk : 0 < l2) : iv (x - x / y * y) 0 (h2 - 1) := by
  have := iv_remp hx (y := y) rfl (by omega)
  omega
theorem iv_divp {x y : Int32} {h l2 h2 : Int} (hx : iv x 0 h) (hy : iv y l2 h2) (hk : 0 < l2) : iv (x / y) 0 h := by
  have e : (x / y).toInt = x.toInt.tdiv y.toInt := Int32.toInt_div_of_ne_right _ _ (fun e => by rw [e] at hy; have : (-1 : Int32).toInt = -1 := rfl; omega)
  rw [iv, e, Int.tdiv_eq_ediv_of_nonneg hx.1]
  have h1 := Int.ediv_nonneg hx.1 (Int.le_of_lt (show 0 < y.toInt by omega))
  have h2 := Int.ediv_le_self y.toInt hx.1
  omega
theorem iv_i2l (x : Int32) {l h : Int} (hx : iv x l h) : ivl x.toInt64 l h := by rw [ivl, Int32.toInt_toInt64]; exact hx
theorem lv_nil {ls : Array Slot} {n : Nat} {L : List (Nat × Value)} (h : lv_has ls n L) : lv_has ls n [] := ⟨h.1, h.2.1, fun _ z => absurd z List.not_mem_nil⟩
theorem lv_cons {ls : Array Slot} {n : Nat} {L L2 : List (Nat × Value)} {q : Nat × Value} (h : lv_has ls n L) (k : Nat) (hk : L[k]? = some q) (h2 : lv_has ls n L2) : lv_has ls n (q :: L2) := ⟨h.1, h.2.1, fun z hz => by
  rcases List.mem_cons.mp hz with rfl | hz
  · exact h.2.2 _ (List.mem_of_getElem? hk)
  · exact h2.2.2 _ hz⟩
/-- cells by kinds -/
def isIA (G : Nat → Nat) (n : Nat) (lo hi : Int) (e : va_E) : Prop := ∃ r : Nat → Int32, e = .inl (G 1, n, .inl r) ∧ ∀ j, iv (r j) lo hi
def isBA (G : Nat → Nat) (n : Nat) (e : va_E) : Prop := ∃ r : Nat → Int32, e = .inl (G 0, n, .inl r) ∧ ∀ j, iv (r j) (-128) 127
def isLA (G : Nat → Nat) (n : Nat) (e : va_E) : Prop := ∃ r : Nat → Int64, e = .inl (G 2, n, .inr (.inl r))
def isRA (G : Nat → Nat) (τ : Nat → Nat) (g n tq : Nat) (e : va_E) : Prop := ∃ r : Nat → Option Nat, e = .inl (G g, n, .inr (.inr (.inr (.inr r)))) ∧ ∀ j, j < n → ∃ q, r j = some q ∧ τ q = tq
def isRO (G : Nat → Nat) (τ : Nat → Nat) (g n tq : Nat) (e : va_E) : Prop := ∃ r : Nat → Option Nat, e = .inl (G g, n, .inr (.inr (.inr (.inr r)))) ∧ ∀ j q, r j = some q → τ q = tq
/-- a value by its kind: 0 int within, 1 long, 2 reference to a tag, 3 the same or null -/
def tv (τ : Nat → Nat) (T : Nat × Int × Int) (v : Value) : Prop := match T.1 with
  | 0 => ∃ x, v = .int x ∧ iv x T.2.1 T.2.2
  | 1 => ∃ x, v = .long x
  | 2 => ∃ q, v = .ref q ∧ τ q = T.2.1.toNat
  | _ => ∃ o : Option Nat, v = va_rf o ∧ ∀ q, o = some q → τ q = T.2.1.toNat
def wo (τ : Nat → Nat) (ci : Nat) (tys : List (Nat × Int × Int)) (e : va_E) : Prop := ∃ fs : List Value, e = .inr (ci, fs) ∧ fs.length = tys.length ∧ ∀ (k : Nat) (T : Nat × Int × Int), tys[k]? = some T → ∃ v, fs[k]? = some v ∧ tv τ T v
def isBV (G : Nat → Nat) (e : va_E) : Prop := ∃ (n : Nat) (r : Nat → Int32), e = .inl (G 0, n, .inl r) ∧ (16 ≤ n ∧ n ≤ 100) ∧ ∀ j, iv (r j) (-128) 127
def isBK (G : Nat → Nat) (β : Int) (e : va_E) : Prop := ∃ r : Nat → Int32, e = .inl (G 1, 81, .inl r) ∧ (∀ j, j < 80 → iv (r j) 0 β) ∧ iv (r 80) 0 8
def wf (G : Nat → Nat) (β : Int) (τ : Nat → Nat) (t : Nat) (e : va_E) : Prop := match t with
  | 1 => wo τ 7 [(2, 2, 0), (0, 0, 9), (0, 0, 9), (3, 3, 0)] e
  | 2 => isIA G 8 0 9 e
  | 3 => isIA G 305 (-2147483648) 2147483647 e
  | 4 => isRO G τ 4 8 1 e
  | 10 => wo τ 11 [(2, 11, 0), (2, 12, 0), (2, 20, 0), (2, 30, 0), (2, 35, 0), (2, 40, 0), (2, 45, 0), (2, 50, 0), (2, 51, 0), (2, 52, 0)] e
  | 11 => wo τ 8 [(0, 0, 200), (2, 13, 0), (2, 14, 0), (0, 0, 9), (0, 0, 9), (0, 0, 6), (0, 0, 7)] e
  | 12 => wo τ 1 [(0, 0, 12), (2, 15, 0), (2, 16, 0), (2, 17, 0), (0, 0, 1), (0, 0, 11)] e
  | 13 => isIA G 200 0 255 e
  | 14 => isIA G 8 0 9 e
  | 15 => wo τ 6 [(2, 4, 0), (0, 0, 8)] e
  | 16 => wo τ 6 [(2, 4, 0), (0, 0, 8)] e
  | 17 => isRA G τ 3 12 18 e
  | 18 => wo τ 6 [(2, 4, 0), (0, 0, 8)] e
  | 20 => wo τ 3 [(2, 21, 0), (2, 21, 0), (2, 22, 0), (2, 23, 0), (2, 24, 0), (2, 25, 0), (0, 0, 8), (0, (-2147483648), 2147483647), (0, 0, 3), (0, 0, 9), (0, 0, 9)] e
  | 21 => isLA G 15129 e
  | 22 => wo τ 2 [(0, (-60), 69), (0, (-60), 69), (0, (-60), 69), (0, (-60), 69)] e
  | 23 => wo τ 2 [(0, (-60), 69), (0, (-60), 69), (0, (-60), 69), (0, (-60), 69)] e
  | 24 => isIA G 8 (-124) 124 e
  | 25 => isLA G 8 e
  | 30 => wo τ 10 [(2, 31, 0), (0, 0, 10), (0, 0, 9), (0, 0, 9)] e
  | 31 => isRA G τ 5 11 32 e
  | 32 => isIA G 441 (-2147483648) 2147483647 e
  | 35 => wo τ 9 [(2, 36, 0), (2, 80, 0)] e
  | 36 => isIA G 40 (-2147483648) 2147483647 e
  | 40 => wo τ 5 [(2, 41, 0), (0, 0, 32), (0, 0, 28), (0, (-2147483648), 2147483647)] e
  | 41 => isRA G τ 6 32 42 e
  | 42 => isLA G 28 e
  | 45 => wo τ 4 [(2, 40, 0), (2, 46, 0), (2, 48, 0), (0, 0, 1)] e
  | 46 => isRA G τ 5 4 47 e
  | 47 => isIA G 61 (-2147483648) 2147483647 e
  | 48 => isIA G 28 (-2147483648) 2147483647 e
  | 50 => isIA G 4 (-2147483648) 2147483647 e
  | 51 => isLA G 4900 e
  | 52 => wo τ 0 [(2, 53, 0), (0, 0, 0), (0, 0, 1), (0, 0, 100)] e
  | 53 => isBV G e
  | 54 => isIA G 8 (-2147483648) 2147483647 e
  | 60 => wo τ 12 [(0, 0, 1), (2, 61, 0), (0, 0, 200), (0, 0, 200), (0, (-1), 200), (2, 62, 0), (2, 63, 0), (2, 64, 0), (2, 65, 0), (2, 66, 0), (0, 0, 12), (0, 0, 1), (2, 67, 0), (2, 67, 0), (0, 0, 61), (2, 69, 0), (2, 78, 0), (2, 70, 0), (1, 0, 0), (2, 68, 0), (2, 71, 0), (2, 81, 0), (2, 72, 0), (2, 72, 0), (2, 73, 0), (2, 74, 0), (2, 75, 0), (0, 0, 28), (0, 0, 32), (2, 76, 0), (2, 77, 0), (0, 0, 80)] e
  | 61 => isBA G 200 e
  | 62 => isIA G 10 (-2147483648) 2147483647 e
  | 63 => isBK G β e
  | 64 => isIA G 81 0 9 e
  | 65 => isIA G 972 0 9 e
  | 66 => isIA G 4 (-2147483648) 2147483647 e
  | 67 => isLA G 19600 e
  | 68 => isLA G 19600 e
  | 69 => isIA G 61 (-2147483648) 2147483647 e
  | 70 => isLA G 169 e
  | 71 => isIA G 41 (-2147483648) 2147483647 e
  | 72 => isLA G 1708 e
  | 73 => isLA G 784 e
  | 74 => isLA G 28 e
  | 75 => isIA G 28 (-1) 60 e
  | 76 => isLA G 244 e
  | 77 => isIA G 80 (-2147483648) 2147483647 e
  | 78 => isIA G 61 (-2147483648) 2147483647 e
  | 79 => isLA G 1 e
  | 80 => isIA G 40 (-2147483648) 2147483647 e
  | 81 => isIA G 41 (-2147483648) 2147483647 e
  | _ => False
theorem wf_1 {G : Nat → Nat} {β : Int} {τ : Nat → Nat} (e : va_E) : wf G β τ 1 e → wo τ 7 [(2, 2, 0), (0, 0, 9), (0, 0, 9), (3, 3, 0)] e := fun h => h
theorem fw_1 {G : Nat → Nat} {β : Int} {τ : Nat → Nat} (e : va_E) : wo τ 7 [(2, 2, 0), (0, 0, 9), (0, 0, 9), (3, 3, 0)] e → wf G β τ 1 e := fun h => h
theorem wf_2 {G : Nat → Nat} {β : Int} {τ : Nat → Nat} (e : va_E) : wf G β τ 2 e → isIA G 8 0 9 e := fun h => h
theorem fw_2 {G : Nat → Nat} {β : Int} {τ : Nat → Nat} (e : va_E) : isIA G 8 0 9 e → wf G β τ 2 e := fun h => h
theorem wf_3 {G : Nat → Nat} {β : Int} {τ : Nat → Nat} (e : va_E) : wf G β τ 3 e → isIA G 305 (-2147483648) 2147483647 e := fun h => h
theorem fw_3 {G : Nat → Nat} {β : Int} {τ : Nat → Nat} (e : va_E) : isIA G 305 (-2147483648) 2147483647 e → wf G β τ 3 e := fun h => h
theorem wf_4 {G : Nat → Nat} {β : Int} {τ : Nat → Nat} (e : va_E) : wf G β τ 4 e → isRO G τ 4 8 1 e := fun h => h
theorem fw_4 {G : Nat → Nat} {β : Int} {τ : Nat → Nat} (e : va_E) : isRO G τ 4 8 1 e → wf G β τ 4 e := fun h => h
theorem wf_10 {G : Nat → Nat} {β : Int} {τ : Nat → Nat} (e : va_E) : wf G β τ 10 e → wo τ 11 [(2, 11, 0), (2, 12, 0), (2, 20, 0), (2, 30, 0), (2, 35, 0), (2, 40, 0), (2, 45, 0), (2, 50, 0), (2, 51, 0), (2, 52, 0)] e := fun h => h
theorem fw_10 {G : Nat → Nat} {β : Int} {τ : Nat → Nat} (e : va_E) : wo τ 11 [(2, 11, 0), (2, 12, 0), (2, 20, 0), (2, 30, 0), (2, 35, 0), (2, 40, 0), (2, 45, 0), (2, 50, 0), (2, 51, 0), (2, 52, 0)] e → wf G β τ 10 e := fun h => h
theorem wf_11 {G : Nat → Nat} {β : Int} {τ : Nat → Nat} (e : va_E) : wf G β τ 11 e → wo τ 8 [(0, 0, 200), (2, 13, 0), (2, 14, 0), (0, 0, 9), (0, 0, 9), (0, 0, 6), (0, 0, 7)] e := fun h => h
theorem fw_11 {G : Nat → Nat} {β : Int} {τ : Nat → Nat} (e : va_E) : wo τ 8 [(0, 0, 200), (2, 13, 0), (2, 14, 0), (0, 0, 9), (0, 0, 9), (0, 0, 6), (0, 0, 7)] e → wf G β τ 11 e := fun h => h
theorem wf_12 {G : Nat → Nat} {β : Int} {τ : Nat → Nat} (e : va_E) : wf G β τ 12 e → wo τ 1 [(0, 0, 12), (2, 15, 0), (2, 16, 0), (2, 17, 0), (0, 0, 1), (0, 0, 11)] e := fun h => h
theorem fw_12 {G : Nat → Nat} {β : Int} {τ : Nat → Nat} (e : va_E) : wo τ 1 [(0, 0, 12), (2, 15, 0), (2, 16, 0), (2, 17, 0), (0, 0, 1), (0, 0, 11)] e → wf G β τ 12 e := fun h => h
theorem wf_13 {G : Nat → Nat} {β : Int} {τ : Nat → Nat} (e : va_E) : wf G β τ 13 e → isIA G 200 0 255 e := fun h => h
theorem fw_13 {G : Nat → Nat} {β : Int} {τ : Nat → Nat} (e : va_E) : isIA G 200 0 255 e → wf G β τ 13 e := fun h => h
theorem wf_14 {G : Nat → Nat} {β : Int} {τ : Nat → Nat} (e : va_E) : wf G β τ 14 e → isIA G 8 0 9 e := fun h => h
theorem fw_14 {G : Nat → Nat} {β : Int} {τ : Nat → Nat} (e : va_E) : isIA G 8 0 9 e → wf G β τ 14 e := fun h => h
theorem wf_15 {G : Nat → Nat} {β : Int} {τ : Nat → Nat} (e : va_E) : wf G β τ 15 e → wo τ 6 [(2, 4, 0), (0, 0, 8)] e := fun h => h
theorem fw_15 {G : Nat → Nat} {β : Int} {τ : Nat → Nat} (e : va_E) : wo τ 6 [(2, 4, 0), (0, 0, 8)] e → wf G β τ 15 e := fun h => h
theorem wf_16 {G : Nat → Nat} {β : Int} {τ : Nat → Nat} (e : va_E) : wf G β τ 16 e → wo τ 6 [(2, 4, 0), (0, 0, 8)] e := fun h => h
theorem fw_16 {G : Nat → Nat} {β : Int} {τ : Nat → Nat} (e : va_E) : wo τ 6 [(2, 4, 0), (0, 0, 8)] e → wf G β τ 16 e := fun h => h
theorem wf_17 {G : Nat → Nat} {β : Int} {τ : Nat → Nat} (e : va_E) : wf G β τ 17 e → isRA G τ 3 12 18 e := fun h => h
theorem fw_17 {G : Nat → Nat} {β : Int} {τ : Nat → Nat} (e : va_E) : isRA G τ 3 12 18 e → wf G β τ 17 e := fun h => h
theorem wf_18 {G : Nat → Nat} {β : Int} {τ : Nat → Nat} (e : va_E) : wf G β τ 18 e → wo τ 6 [(2, 4, 0), (0, 0, 8)] e := fun h => h
theorem fw_18 {G : Nat → Nat} {β : Int} {τ : Nat → Nat} (e : va_E) : wo τ 6 [(2, 4, 0), (0, 0, 8)] e → wf G β τ 18 e := fun h => h
theorem wf_20 {G : Nat → Nat} {β : Int} {τ : Nat → Nat} (e : va_E) : wf G β τ 20 e → wo τ 3 [(2, 21, 0), (2, 21, 0), (2, 22, 0), (2, 23, 0), (2, 24, 0), (2, 25, 0), (0, 0, 8), (0, (-2147483648), 2147483647), (0, 0, 3), (0, 0, 9), (0, 0, 9)] e := fun h => h
theorem fw_20 {G : Nat → Nat} {β : Int} {τ : Nat → Nat} (e : va_E) : wo τ 3 [(2, 21, 0), (2, 21, 0), (2, 22, 0), (2, 23, 0), (2, 24, 0), (2, 25, 0), (0, 0, 8), (0, (-2147483648), 2147483647), (0, 0, 3), (0, 0, 9), (0, 0, 9)] e → wf G β τ 20 e := fun h => h
theorem wf_21 {G : Nat → Nat} {β : Int} {τ : Nat → Nat} (e : va_E) : wf G β τ 21 e → isLA G 15129 e := fun h => h
theorem fw_21 {G : Nat → Nat} {β : Int} {τ : Nat → Nat} (e : va_E) : isLA G 15129 e → wf G β τ 21 e := fun h => h
theorem wf_22 {G : Nat → Nat} {β : Int} {τ : Nat → Nat} (e : va_E) : wf G β τ 22 e → wo τ 2 [(0, (-60), 69), (0, (-60), 69), (0, (-60), 69), (0, (-60), 69)] e := fun h => h
theorem fw_22 {G : Nat → Nat} {β : Int} {τ : Nat → Nat} (e : va_E) : wo τ 2 [(0, (-60), 69), (0, (-60), 69), (0, (-60), 69), (0, (-60), 69)] e → wf G β τ 22 e := fun h => h
theorem wf_23 {G : Nat → Nat} {β : Int} {τ : Nat → Nat} (e : va_E) : wf G β τ 23 e → wo τ 2 [(0, (-60), 69), (0, (-60), 69), (0, (-60), 69), (0, (-60), 69)] e := fun h => h
theorem fw_23 {G : Nat → Nat} {β : Int} {τ : Nat → Nat} (e : va_E) : wo τ 2 [(0, (-60), 69), (0, (-60), 69), (0, (-60), 69), (0, (-60), 69)] e → wf G β τ 23 e := fun h => h
theorem wf_24 {G : Nat → Nat} {β : Int} {τ : Nat → Nat} (e : va_E) : wf G β τ 24 e → isIA G 8 (-124) 124 e := fun h => h
theorem fw_24 {G : Nat → Nat} {β : Int} {τ : Nat → Nat} (e : va_E) : isIA G 8 (-124) 124 e → wf G β τ 24 e := fun h => h
theorem wf_25 {G : Nat → Nat} {β : Int} {τ : Nat → Nat} (e : va_E) : wf G β τ 25 e → isLA G 8 e := fun h => h
theorem fw_25 {G : Nat → Nat} {β : Int} {τ : Nat → Nat} (e : va_E) : isLA G 8 e → wf G β τ 25 e := fun h => h
theorem wf_30 {G : Nat → Nat} {β : Int} {τ : Nat → Nat} (e : va_E) : wf G β τ 30 e → wo τ 10 [(2, 31, 0), (0, 0, 10), (0, 0, 9), (0, 0, 9)] e := fun h => h
theorem fw_30 {G : Nat → Nat} {β : Int} {τ : Nat → Nat} (e : va_E) : wo τ 10 [(2, 31, 0), (0, 0, 10), (0, 0, 9), (0, 0, 9)] e → wf G β τ 30 e := fun h => h
theorem wf_31 {G : Nat → Nat} {β : Int} {τ : Nat → Nat} (e : va_E) : wf G β τ 31 e → isRA G τ 5 11 32 e := fun h => h
theorem fw_31 {G : Nat → Nat} {β : Int} {τ : Nat → Nat} (e : va_E) : isRA G τ 5 11 32 e → wf G β τ 31 e := fun h => h
theorem wf_32 {G : Nat → Nat} {β : Int} {τ : Nat → Nat} (e : va_E) : wf G β τ 32 e → isIA G 441 (-2147483648) 2147483647 e := fun h => h
theorem fw_32 {G : Nat → Nat} {β : Int} {τ : Nat → Nat} (e : va_E) : isIA G 441 (-2147483648) 2147483647 e → wf G β τ 32 e := fun h => h
theorem wf_35 {G : Nat → Nat} {β : Int} {τ : Nat → Nat} (e : va_E) : wf G β τ 35 e → wo τ 9 [(2, 36, 0), (2, 80, 0)] e := fun h => h
theorem fw_35 {G : Nat → Nat} {β : Int} {τ : Nat → Nat} (e : va_E) : wo τ 9 [(2, 36, 0), (2, 80, 0)] e → wf G β τ 35 e := fun h => h
theorem wf_36 {G : Nat → Nat} {β : Int} {τ : Nat → Nat} (e : va_E) : wf G β τ 36 e → isIA G 40 (-2147483648) 2147483647 e := fun h => h
theorem fw_36 {G : Nat → Nat} {β : Int} {τ : Nat → Nat} (e : va_E) : isIA G 40 (-2147483648) 2147483647 e → wf G β τ 36 e := fun h => h
theorem wf_40 {G : Nat → Nat} {β : Int} {τ : Nat → Nat} (e : va_E) : wf G β τ 40 e → wo τ 5 [(2, 41, 0), (0, 0, 32), (0, 0, 28), (0, (-2147483648), 2147483647)] e := fun h => h
theorem fw_40 {G : Nat → Nat} {β : Int} {τ : Nat → Nat} (e : va_E) : wo τ 5 [(2, 41, 0), (0, 0, 32), (0, 0, 28), (0, (-2147483648), 2147483647)] e → wf G β τ 40 e := fun h => h
theorem wf_41 {G : Nat → Nat} {β : Int} {τ : Nat → Nat} (e : va_E) : wf G β τ 41 e → isRA G τ 6 32 42 e := fun h => h
theorem fw_41 {G : Nat → Nat} {β : Int} {τ : Nat → Nat} (e : va_E) : isRA G τ 6 32 42 e → wf G β τ 41 e := fun h => h
theorem wf_42 {G : Nat → Nat} {β : Int} {τ : Nat → Nat} (e : va_E) : wf G β τ 42 e → isLA G 28 e := fun h => h
theorem fw_42 {G : Nat → Nat} {β : Int} {τ : Nat → Nat} (e : va_E) : isLA G 28 e → wf G β τ 42 e := fun h => h
theorem wf_45 {G : Nat → Nat} {β : Int} {τ : Nat → Nat} (e : va_E) : wf G β τ 45 e → wo τ 4 [(2, 40, 0), (2, 46, 0), (2, 48, 0), (0, 0, 1)] e := fun h => h
theorem fw_45 {G : Nat → Nat} {β : Int} {τ : Nat → Nat} (e : va_E) : wo τ 4 [(2, 40, 0), (2, 46, 0), (2, 48, 0), (0, 0, 1)] e → wf G β τ 45 e := fun h => h
theorem wf_46 {G : Nat → Nat} {β : Int} {τ : Nat → Nat} (e : va_E) : wf G β τ 46 e → isRA G τ 5 4 47 e := fun h => h
theorem fw_46 {G : Nat → Nat} {β : Int} {τ : Nat → Nat} (e : va_E) : isRA G τ 5 4 47 e → wf G β τ 46 e := fun h => h
theorem wf_47 {G : Nat → Nat} {β : Int} {τ : Nat → Nat} (e : va_E) : wf G β τ 47 e → isIA G 61 (-2147483648) 2147483647 e := fun h => h
theorem fw_47 {G : Nat → Nat} {β : Int} {τ : Nat → Nat} (e : va_E) : isIA G 61 (-2147483648) 2147483647 e → wf G β τ 47 e := fun h => h
theorem wf_48 {G : Nat → Nat} {β : Int} {τ : Nat → Nat} (e : va_E) : wf G β τ 48 e → isIA G 28 (-2147483648) 2147483647 e := fun h => h
theorem fw_48 {G : Nat → Nat} {β : Int} {τ : Nat → Nat} (e : va_E) : isIA G 28 (-2147483648) 2147483647 e → wf G β τ 48 e := fun h => h
theorem wf_50 {G : Nat → Nat} {β : Int} {τ : Nat → Nat} (e : va_E) : wf G β τ 50 e → isIA G 4 (-2147483648) 2147483647 e := fun h => h
theorem fw_50 {G : Nat → Nat} {β : Int} {τ : Nat → Nat} (e : va_E) : isIA G 4 (-2147483648) 2147483647 e → wf G β τ 50 e := fun h => h
theorem wf_51 {G : Nat → Nat} {β : Int} {τ : Nat → Nat} (e : va_E) : wf G β τ 51 e → isLA G 4900 e := fun h => h
theorem fw_51 {G : Nat → Nat} {β : Int} {τ : Nat → Nat} (e : va_E) : isLA G 4900 e → wf G β τ 51 e := fun h => h
theorem wf_52 {G : Nat → Nat} {β : Int} {τ : Nat → Nat} (e : va_E) : wf G β τ 52 e → wo τ 0 [(2, 53, 0), (0, 0, 0), (0, 0, 1), (0, 0, 100)] e := fun h => h
theorem fw_52 {G : Nat → Nat} {β : Int} {τ : Nat → Nat} (e : va_E) : wo τ 0 [(2, 53, 0), (0, 0, 0), (0, 0, 1), (0, 0, 100)] e → wf G β τ 52 e := fun h => h
theorem wf_53 {G : Nat → Nat} {β : Int} {τ : Nat → Nat} (e : va_E) : wf G β τ 53 e → isBV G e := fun h => h
theorem fw_53 {G : Nat → Nat} {β : Int} {τ : Nat → Nat} (e : va_E) : isBV G e → wf G β τ 53 e := fun h => h
theorem wf_54 {G : Nat → Nat} {β : Int} {τ : Nat → Nat} (e : va_E) : wf G β τ 54 e → isIA G 8 (-2147483648) 2147483647 e := fun h => h
theorem fw_54 {G : Nat → Nat} {β : Int} {τ : Nat → Nat} (e : va_E) : isIA G 8 (-2147483648) 2147483647 e → wf G β τ 54 e := fun h => h
theorem wf_60 {G : Nat → Nat} {β : Int} {τ : Nat → Nat} (e : va_E) : wf G β τ 60 e → wo τ 12 [(0, 0, 1), (2, 61, 0), (0, 0, 200), (0, 0, 200), (0, (-1), 200), (2, 62, 0), (2, 63, 0), (2, 64, 0), (2, 65, 0), (2, 66, 0), (0, 0, 12), (0, 0, 1), (2, 67, 0), (2, 67, 0), (0, 0, 61), (2, 69, 0), (2, 78, 0), (2, 70, 0), (1, 0, 0), (2, 68, 0), (2, 71, 0), (2, 81, 0), (2, 72, 0), (2, 72, 0), (2, 73, 0), (2, 74, 0), (2, 75, 0), (0, 0, 28), (0, 0, 32), (2, 76, 0), (2, 77, 0), (0, 0, 80)] e := fun h => h
theorem fw_60 {G : Nat → Nat} {β : Int} {τ : Nat → Nat} (e : va_E) : wo τ 12 [(0, 0, 1), (2, 61, 0), (0, 0, 200), (0, 0, 200), (0, (-1), 200), (2, 62, 0), (2, 63, 0), (2, 64, 0), (2, 65, 0), (2, 66, 0), (0, 0, 12), (0, 0, 1), (2, 67, 0), (2, 67, 0), (0, 0, 61), (2, 69, 0), (2, 78, 0), (2, 70, 0), (1, 0, 0), (2, 68, 0), (2, 71, 0), (2, 81, 0), (2, 72, 0), (2, 72, 0), (2, 73, 0), (2, 74, 0), (2, 75, 0), (0, 0, 28), (0, 0, 32), (2, 76, 0), (2, 77, 0), (0, 0, 80)] e → wf G β τ 60 e := fun h => h
theorem wf_61 {G : Nat → Nat} {β : Int} {τ : Nat → Nat} (e : va_E) : wf G β τ 61 e → isBA G 200 e := fun h => h
theorem fw_61 {G : Nat → Nat} {β : Int} {τ : Nat → Nat} (e : va_E) : isBA G 200 e → wf G β τ 61 e := fun h => h
theorem wf_62 {G : Nat → Nat} {β : Int} {τ : Nat → Nat} (e : va_E) : wf G β τ 62 e → isIA G 10 (-2147483648) 2147483647 e := fun h => h
theorem fw_62 {G : Nat → Nat} {β : Int} {τ : Nat → Nat} (e : va_E) : isIA G 10 (-2147483648) 2147483647 e → wf G β τ 62 e := fun h => h
theorem wf_63 {G : Nat → Nat} {β : Int} {τ : Nat → Nat} (e : va_E) : wf G β τ 63 e → isBK G β e := fun h => h
theorem fw_63 {G : Nat → Nat} {β : Int} {τ : Nat → Nat} (e : va_E) : isBK G β e → wf G β τ 63 e := fun h => h
theorem wf_64 {G : Nat → Nat} {β : Int} {τ : Nat → Nat} (e : va_E) : wf G β τ 64 e → isIA G 81 0 9 e := fun h => h
theorem fw_64 {G : Nat → Nat} {β : Int} {τ : Nat → Nat} (e : va_E) : isIA G 81 0 9 e → wf G β τ 64 e := fun h => h
theorem wf_65 {G : Nat → Nat} {β : Int} {τ : Nat → Nat} (e : va_E) : wf G β τ 65 e → isIA G 972 0 9 e := fun h => h
theorem fw_65 {G : Nat → Nat} {β : Int} {τ : Nat → Nat} (e : va_E) : isIA G 972 0 9 e → wf G β τ 65 e := fun h => h
theorem wf_66 {G : Nat → Nat} {β : Int} {τ : Nat → Nat} (e : va_E) : wf G β τ 66 e → isIA G 4 (-2147483648) 2147483647 e := fun h => h
theorem fw_66 {G : Nat → Nat} {β : Int} {τ : Nat → Nat} (e : va_E) : isIA G 4 (-2147483648) 2147483647 e → wf G β τ 66 e := fun h => h
theorem wf_67 {G : Nat → Nat} {β : Int} {τ : Nat → Nat} (e : va_E) : wf G β τ 67 e → isLA G 19600 e := fun h => h
theorem fw_67 {G : Nat → Nat} {β : Int} {τ : Nat → Nat} (e : va_E) : isLA G 19600 e → wf G β τ 67 e := fun h => h
theorem wf_68 {G : Nat → Nat} {β : Int} {τ : Nat → Nat} (e : va_E) : wf G β τ 68 e → isLA G 19600 e := fun h => h
theorem fw_68 {G : Nat → Nat} {β : Int} {τ : Nat → Nat} (e : va_E) : isLA G 19600 e → wf G β τ 68 e := fun h => h
theorem wf_69 {G : Nat → Nat} {β : Int} {τ : Nat → Nat} (e : va_E) : wf G β τ 69 e → isIA G 61 (-2147483648) 2147483647 e := fun h => h
theorem fw_69 {G : Nat → Nat} {β : Int} {τ : Nat → Nat} (e : va_E) : isIA G 61 (-2147483648) 2147483647 e → wf G β τ 69 e := fun h => h
theorem wf_70 {G : Nat → Nat} {β : Int} {τ : Nat → Nat} (e : va_E) : wf G β τ 70 e → isLA G 169 e := fun h => h
theorem fw_70 {G : Nat → Nat} {β : Int} {τ : Nat → Nat} (e : va_E) : isLA G 169 e → wf G β τ 70 e := fun h => h
theorem wf_71 {G : Nat → Nat} {β : Int} {τ : Nat → Nat} (e : va_E) : wf G β τ 71 e → isIA G 41 (-2147483648) 2147483647 e := fun h => h
theorem fw_71 {G : Nat → Nat} {β : Int} {τ : Nat → Nat} (e : va_E) : isIA G 41 (-2147483648) 2147483647 e → wf G β τ 71 e := fun h => h
theorem wf_72 {G : Nat → Nat} {β : Int} {τ : Nat → Nat} (e : va_E) : wf G β τ 72 e → isLA G 1708 e := fun h => h
theorem fw_72 {G : Nat → Nat} {β : Int} {τ : Nat → Nat} (e : va_E) : isLA G 1708 e → wf G β τ 72 e := fun h => h
theorem wf_73 {G : Nat → Nat} {β : Int} {τ : Nat → Nat} (e : va_E) : wf G β τ 73 e → isLA G 784 e := fun h => h
theorem fw_73 {G : Nat → Nat} {β : Int} {τ : Nat → Nat} (e : va_E) : isLA G 784 e → wf G β τ 73 e := fun h => h
theorem wf_74 {G : Nat → Nat} {β : Int} {τ : Nat → Nat} (e : va_E) : wf G β τ 74 e → isLA G 28 e := fun h => h
theorem fw_74 {G : Nat → Nat} {β : Int} {τ : Nat → Nat} (e : va_E) : isLA G 28 e → wf G β τ 74 e := fun h => h
theorem wf_75 {G : Nat → Nat} {β : Int} {τ : Nat → Nat} (e : va_E) : wf G β τ 75 e → isIA G 28 (-1) 60 e := fun h => h
theorem fw_75 {G : Nat → Nat} {β : Int} {τ : Nat → Nat} (e : va_E) : isIA G 28 (-1) 60 e → wf G β τ 75 e := fun h => h
theorem wf_76 {G : Nat → Nat} {β : Int} {τ : Nat → Nat} (e : va_E) : wf G β τ 76 e → isLA G 244 e := fun h => h
theorem fw_76 {G : Nat → Nat} {β : Int} {τ : Nat → Nat} (e : va_E) : isLA G 244 e → wf G β τ 76 e := fun h => h
theorem wf_77 {G : Nat → Nat} {β : Int} {τ : Nat → Nat} (e : va_E) : wf G β τ 77 e → isIA G 80 (-2147483648) 2147483647 e := fun h => h
theorem fw_77 {G : Nat → Nat} {β : Int} {τ : Nat → Nat} (e : va_E) : isIA G 80 (-2147483648) 2147483647 e → wf G β τ 77 e := fun h => h
theorem wf_78 {G : Nat → Nat} {β : Int} {τ : Nat → Nat} (e : va_E) : wf G β τ 78 e → isIA G 61 (-2147483648) 2147483647 e := fun h => h
theorem fw_78 {G : Nat → Nat} {β : Int} {τ : Nat → Nat} (e : va_E) : isIA G 61 (-2147483648) 2147483647 e → wf G β τ 78 e := fun h => h
theorem wf_79 {G : Nat → Nat} {β : Int} {τ : Nat → Nat} (e : va_E) : wf G β τ 79 e → isLA G 1 e := fun h => h
theorem fw_79 {G : Nat → Nat} {β : Int} {τ : Nat → Nat} (e : va_E) : isLA G 1 e → wf G β τ 79 e := fun h => h
theorem wf_80 {G : Nat → Nat} {β : Int} {τ : Nat → Nat} (e : va_E) : wf G β τ 80 e → isIA G 40 (-2147483648) 2147483647 e := fun h => h
theorem fw_80 {G : Nat → Nat} {β : Int} {τ : Nat → Nat} (e : va_E) : isIA G 40 (-2147483648) 2147483647 e → wf G β τ 80 e := fun h => h
theorem wf_81 {G : Nat → Nat} {β : Int} {τ : Nat → Nat} (e : va_E) : wf G β τ 81 e → isIA G 41 (-2147483648) 2147483647 e := fun h => h
theorem fw_81 {G : Nat → Nat} {β : Int} {τ : Nat → Nat} (e : va_E) : isIA G 41 (-2147483648) 2147483647 e → wf G β τ 81 e := fun h => h
/-- every cell with a tag is as its tag says -/
def TI (G : Nat → Nat) (β : Int) (τ : Nat → Nat) (f : hM) : Prop := ∀ q, τ q ≠ 0 → ∃ e, f q = some e ∧ wf G β τ (τ q) e
/-- something of one cell -/
def atp (f : hM) (a : Nat) (P : va_E → Prop) : Prop := ∃ e, f a = some e ∧ P e
/-- field k holds v -/
def fd (k : Nat) (v : Value) (e : va_E) : Prop := ∃ ci fs, e = .inr (ci, fs) ∧ fs[k]? = some v
/-- cells whose tag isn't in S are as they were; fields that aren't named in S (1000 tag + field + 1) hold what they held -/
def Fr (S : List Nat) (τ : Nat → Nat) (f g : hM) : Prop := (∀ q, τ q ∉ S → g q = f q) ∧ ∀ q k v, τ q ≠ 0 → 1000 * τ q + k + 1 ∉ S → atp f q (fd k v) → atp g q (fd k v)
theorem Fr.rf (S : List Nat) (τ : Nat → Nat) (f : hM) : Fr S τ f f := ⟨fun _ _ => rfl, fun _ _ _ _ _ h => h⟩
theorem Fr.tr {S1 S2 S : List Nat} {τ : Nat → Nat} {f g k : hM} (h1 : Fr S1 τ f g) (h2 : Fr S2 τ g k) (q1 : ∀ x ∈ S1, x ∈ S) (q2 : ∀ x ∈ S2, x ∈ S) : Fr S τ f k := ⟨fun q hq => (h2.1 q (fun z => hq (q2 _ z))).trans (h1.1 q (fun z => hq (q1 _ z))), fun q k v h0 hk h => h2.2 q k v h0 (fun z => hk (q2 _ z)) (h1.2 q k v h0 (fun z => hk (q1 _ z)) h)⟩
theorem Fr.nil {τ : Nat → Nat} {f g : hM} (h : Fr [] τ f g) : g = f := funext fun q => h.1 q (by simp)
theorem TI.at {G : Nat → Nat} {β : Int} {τ : Nat → Nat} {f : hM} (t : TI G β τ f) {a tg : Nat} (ha : τ a = tg) (h0 : tg ≠ 0) : ∃ e, f a = some e ∧ wf G β τ tg e := by
  have := t a (by rw [ha]; exact h0)
  rw [ha] at this; exact this
theorem TI.up {G : Nat → Nat} {β : Int} {τ : Nat → Nat} {f : hM} (t : TI G β τ f) {a tg : Nat} (ha : τ a = tg) {e : va_E} (he : wf G β τ tg e) : TI G β τ (hu f a e) := fun q hq => by
  by_cases h : q = a
  · subst h; exact ⟨e, hu_self _ _ _, by rw [ha]; exact he⟩
  · rw [hu_ne h]; exact t q hq
theorem Fr.upA {S : List Nat} {τ : Nat → Nat} {f0 f : hM} (o : Fr S τ f0 f) {a tg : Nat} (ha : τ a = tg) (hS : tg ∈ S) {x e} (hx : f a = some (.inl x)) : Fr S τ f0 (hu f a e) := ⟨fun q hq => by
  rw [hu_ne (fun z => hq (by rw [z, ha]; exact hS))]; exact o.1 q hq, fun q k v h0 hk h => by
  obtain ⟨e1, q1, ci, fs, rfl, q2⟩ := o.2 q k v h0 hk h
  have hn : q ≠ a := fun z => by rw [z, hx] at q1; cases q1
  exact ⟨_, by rw [hu_ne hn]; exact q1, ci, fs, rfl, q2⟩⟩
theorem Fr.upF {S : List Nat} {τ : Nat → Nat} {f0 f : hM} (o : Fr S τ f0 f) {a tg k : Nat} (ha : τ a = tg) (hS : tg ∈ S) (hk : 1000 * tg + k + 1 ∈ S) {ci : Nat} {fs : List Value} {v : Value} (hx : f a = some (.inr (ci, fs))) : Fr S τ f0 (hu f a (.inr (ci, fs.set k v))) := ⟨fun q hq => by
  rw [hu_ne (fun z => hq (by rw [z, ha]; exact hS))]; exact o.1 q hq, fun q j w h0 hj h => by
  obtain ⟨e1, q1, ci1, fs1, rfl, q2⟩ := o.2 q j w h0 hj h
  by_cases hn : q = a
  · subst hn
    rw [hx] at q1; cases q1
    have hjk : k ≠ j := fun z => hj (by rw [ha, ← z]; exact hk)
    exact ⟨_, hu_self _ _ _, _, _, rfl, by rw [List.getElem?_set_ne hjk]; exact q2⟩
  · exact ⟨_, by rw [hu_ne hn]; exact q1, ci1, fs1, rfl, q2⟩⟩
theorem hu_tg {τ : Nat → Nat} {f : hM} {a tg : Nat} (ha : τ a = tg) (e : va_E) : ∀ q, τ q ≠ tg → hu f a e q = f q := fun q hq => hu_ne (fun z => hq (by rw [z]; exact ha))
theorem atp.tr {f g : hM} {a : Nat} {P : va_E → Prop} (h : atp f a P) (e : g a = f a) : atp g a P := by
  obtain ⟨x, h1, h2⟩ := h
  exact ⟨x, e.trans h1, h2⟩
theorem atp.tg {τ : Nat → Nat} {f g : hM} {a tg tq : Nat} {P : va_E → Prop} (h : atp f a P) (hq : ∀ q, τ q ≠ tg → g q = f q) (ha : τ a = tq) (hn : tq ≠ tg) : atp g a P := h.tr (hq a (by rw [ha]; exact hn))
theorem atp.fr {S : List Nat} {τ : Nat → Nat} {f g : hM} {a tq : Nat} {P : va_E → Prop} (h : atp f a P) (o : Fr S τ f g) (ha : τ a = tq) (hn : tq ∉ S) : atp g a P := h.tr (o.1 a (by rw [ha]; exact hn))
theorem atp.fk {S : List Nat} {τ : Nat → Nat} {f g : hM} {a tq k : Nat} {v : Value} (h : atp f a (fd k v)) (o : Fr S τ f g) (ha : τ a = tq) (h0 : tq ≠ 0) (hn : 1000 * tq + k + 1 ∉ S) : atp g a (fd k v) := o.2 a k v (by rw [ha]; exact h0) (by rw [ha]; exact hn) h
theorem met2 {l : Launch} {y : MethodName} {cc : ByteArray} {n : Nat} {ret : Option FieldType} {rm : Room} {D : va_G} {G : Nat → Nat} {b0 : Nat} {f : hM} {av : List Value} {Qc : Array Value → State → Outcome → State → Prop} {own : String} (hy : plainName y.cls = true) (ho : y.cls = own) (hlen : (lg_sl av).length ≤ n)
    (body : ∀ p e s m args below meth c ls Q, Q = MQ below Qc args s rm.cells rm.slots (hA b0) → hC p s m args meth c cc n own D G b0 → meth.sig.returnType = ret → meth.name = y.name → lv_has ls n (lv_args 0 av) → hw D b0 s.heap f s.heap [] → W p l e rm s m args below meth c s.heap [] 0 0 Q (F0 m 0 ls [])) :
    Met l y (Cond.code y cc n ret :: wAll) rm (va_Pc av (hPre D G b0 f)) Qc rm.cells rm.slots (hA b0) :=
  met_of hy ho hlen (fun p e s m below meth c ls C hr hini hl h => body p e s m _ below meth c ls _ rfl C hr hini hl h)
theorem iv_and {x y : Int32} {k : Int} (hy : y.toInt = k) (hk : 0 ≤ k) : iv (x &&& y) 0 k := by
  have h1 : y.toBitVec.toNat = k.toNat ∧ k.toNat < 2147483648 := by
    have hr := iv_rng y
    have e : y.toInt = y.toBitVec.toInt := rfl
    rw [BitVec.toInt_eq_toNat_bmod, Int.bmod_def] at e
    have hlt := y.toBitVec.isLt
    split at e <;> omega
  have h2 : (x &&& y).toBitVec.toNat ≤ y.toBitVec.toNat := by
    show (x.toBitVec &&& y.toBitVec).toNat ≤ _
    rw [BitVec.toNat_and]; exact Nat.and_le_right
  have e : (x &&& y).toInt = (x &&& y).toBitVec.toInt := rfl
  rw [BitVec.toInt_eq_toNat_bmod, Int.bmod_def] at e
  rw [iv, e]
  split <;> omega
theorem iv_neg {x : Int32} {l h : Int} (hx : iv x l h) (q : -2147483648 < l) : iv (-x) (-h) (-l) := by
  have hr := iv_rng x
  rw [iv, Int32.toInt_neg, iv_bm (by omega) (by omega)]; omega
theorem iv_btw {x a b : Int32} {l1 h1 l2 h2 : Int} (q : a.toInt ≤ x.toInt ∧ x.toInt ≤ b.toInt) (ha : iv a l1 h1) (hb : iv b l2 h2) : iv x l1 h2 := by omega
theorem iv_btl {x : Int32} {v a b : Int64} {l1 h1 l2 h2 : Int} (e : v = x.toInt64) (q : a.toInt ≤ v.toInt ∧ v.toInt ≤ b.toInt) (ha : ivl a l1 h1) (hb : ivl b l2 h2) : iv x l1 h2 := by
  rw [e, Int32.toInt_toInt64] at q; omega
theorem iv_cmp (x y : Int64) : iv (lg_cmp x y) (-1) 1 := by
  unfold lg_cmp
  split
  · exact ⟨by decide, by decide⟩
  · split
    · exact ⟨by decide, by decide⟩
    · exact ⟨by decide, by decide⟩
/-- more cells have a tag -/
def Ex (τ τ1 : Nat → Nat) : Prop := ∀ a, τ a ≠ 0 → τ1 a = τ a
theorem Ex.rf (τ : Nat → Nat) : Ex τ τ := fun _ _ => rfl
theorem Ex.tr {τ τ1 τ2 : Nat → Nat} (h1 : Ex τ τ1) (h2 : Ex τ1 τ2) : Ex τ τ2 := fun a h => (h2 a (by rw [h1 a h]; exact h)).trans (h1 a h)
theorem Ex.at {τ τ1 : Nat → Nat} (h : Ex τ τ1) {a tg : Nat} (ha : τ a = tg) (h0 : tg ≠ 0) : τ1 a = tg := (h a (by rw [ha]; exact h0)).trans ha
theorem tv_ext {τ τ1 : Nat → Nat} (hx : Ex τ τ1) {T : Nat × Int × Int} {v : Value} (hT : T.1 < 2 ∨ T.2.1.toNat ≠ 0) (h : tv τ T v) : tv τ1 T v := by
  unfold tv at h ⊢
  split at h
  · exact h
  · exact h
  · obtain ⟨q, e1, e2⟩ := h
    exact ⟨q, e1, hx.at e2 (by rcases hT with z | z; (rename_i hh; rw [hh] at z; omega); exact z)⟩
  · rename_i n1 n2 n3
    obtain ⟨o, e1, e2⟩ := h
    exact ⟨o, e1, fun q hq => hx.at (e2 q hq) (by
      rcases hT with z | z
      · have z2 : T.1 = 0 ∨ T.1 = 1 := by omega
        rcases z2 with z3 | z3
        · exact (n1 z3).elim
        · exact (n2 z3).elim
      · exact z)⟩
theorem wo_ext {τ τ1 : Nat → Nat} (hx : Ex τ τ1) {ci : Nat} {tys : List (Nat × Int × Int)} {e : va_E} (hT : ∀ T ∈ tys, T.1 < 2 ∨ T.2.1.toNat ≠ 0) (h : wo τ ci tys e) : wo τ1 ci tys e := by
  obtain ⟨fs, rfl, h1, h2⟩ := h
  refine ⟨fs, rfl, h1, fun k T hk => ?_⟩
  obtain ⟨v, e1, e2⟩ := h2 k T hk
  exact ⟨v, e1, tv_ext hx (hT T (List.mem_of_getElem? hk)) e2⟩
theorem isRA_ext {G : Nat → Nat} {τ τ1 : Nat → Nat} (hx : Ex τ τ1) {g n tq : Nat} {e : va_E} (h0 : tq ≠ 0) (h : isRA G τ g n tq e) : isRA G τ1 g n tq e := by
  obtain ⟨r, rfl, h1⟩ := h
  refine ⟨r, rfl, fun j hj => ?_⟩
  obtain ⟨q, e1, e2⟩ := h1 j hj
  exact ⟨q, e1, hx.at e2 h0⟩
theorem isRO_ext {G : Nat → Nat} {τ τ1 : Nat → Nat} (hx : Ex τ τ1) {g n tq : Nat} {e : va_E} (h0 : tq ≠ 0) (h : isRO G τ g n tq e) : isRO G τ1 g n tq e := by
  obtain ⟨r, rfl, h1⟩ := h
  exact ⟨r, rfl, fun j q hq => hx.at (h1 j q hq) h0⟩
theorem wf_ext {G : Nat → Nat} {β : Int} {τ τ1 : Nat → Nat} (hx : Ex τ τ1) {t : Nat} {e : va_E} (h : wf G β τ t e) : wf G β τ1 t e := by
  unfold wf at h
  split at h
  all_goals first | exact h.elim | exact wo_ext hx (by decide) h | exact isRA_ext hx (by decide) h | exact isRO_ext hx (by decide) h | exact h
def tu (τ : Nat → Nat) (q tg : Nat) : Nat → Nat := fun a => if a = q then tg else τ a
theorem TI.zero {G : Nat → Nat} {β : Int} {τ : Nat → Nat} {f : hM} (t : TI G β τ f) {q : Nat} (hq : f q = none) : τ q = 0 := by
  by_cases h : τ q = 0
  · exact h
  · obtain ⟨e, h1, -⟩ := t q h
    rw [hq] at h1; cases h1
theorem TI.newEx {G : Nat → Nat} {β : Int} {τ : Nat → Nat} {f : hM} (t : TI G β τ f) {q tg : Nat} (hq : f q = none) : Ex τ (tu τ q tg) := fun a h => if_neg (fun z => h (by rw [z]; exact t.zero hq))
theorem TI.new {G : Nat → Nat} {β : Int} {τ : Nat → Nat} {f : hM} (t : TI G β τ f) {q tg : Nat} {e : va_E} (hq : f q = none) (he : wf G β τ tg e) : TI G β (tu τ q tg) (hu f q e) := fun a ha => by
  by_cases h : a = q
  · subst h
    refine ⟨e, hu_self _ _ _, ?_⟩
    rw [show tu τ a tg a = tg from if_pos rfl]
    exact wf_ext (t.newEx hq) he
  · have e1 : tu τ q tg a = τ a := if_neg h
    rw [e1] at ha ⊢
    obtain ⟨x, h1, h2⟩ := t a ha
    exact ⟨x, by rw [hu_ne h]; exact h1, wf_ext (t.newEx hq) h2⟩
theorem tu_self (τ : Nat → Nat) (q tg : Nat) : tu τ q tg q = tg := if_pos rfl
theorem Fr.new {S : List Nat} {τ : Nat → Nat} {f0 f : hM} (o : Fr S τ f0 f) {q : Nat} {e : va_E} (hq : f q = none) (hz : τ q = 0) (h0 : 0 ∈ S) : Fr S τ f0 (hu f q e) := ⟨fun a ha => by
  rw [hu_ne (fun z => ha (by rw [z, hz]; exact h0))]; exact o.1 a ha, fun a k v h1 hk h => by
  obtain ⟨e1, q1, q2⟩ := o.2 a k v h1 hk h
  exact ⟨e1, by rw [hu_ne (fun z => h1 (by rw [z]; exact hz))]; exact q1, q2⟩⟩
theorem Fr.cv {S S1 : List Nat} {τ τ1 : Nat → Nat} {g h : hM} (ex : Ex τ τ1) (o : Fr S1 τ1 g h) (h0 : 0 ∈ S) (sub : ∀ x ∈ S1, x ∈ S) : Fr S τ g h := ⟨fun q hq => by
  have hz : τ q ≠ 0 := fun z => hq (by rw [z]; exact h0)
  exact o.1 q (fun z => hq (sub _ (by rw [← ex q hz]; exact z))), fun q k v hz hk ha => o.2 q k v (by rw [ex q hz]; exact hz) (fun z => hk (sub _ (by rw [← ex q hz]; exact z))) ha⟩
section TRows
variable {p : Program} {l : Launch} {e : Env} {R : Room} {s : State} {m : MethodId} {args : Array Value} {below : List Frame} {meth : Method} {c : Code} {H : Heap} {locs : List Loc} {cells slots : Nat} {Q : State → Prop}
variable {cc : ByteArray} {nL pc : Nat} {ls : Array Slot} {rest : List Value} {D : va_G} {G : Nat → Nat} {b0 a : Nat} {f f0 : hM} {own : String} {H0 : Heap} {τ : Nat → Nat} {β : Int} {tg : Nat} {S : List Nat}
theorem i_add (hexec : p.tables.exec = Jvm.exec) (hb : c.code = cc) {x y : Int32} {l1 h1 l2 h2 lo hi : Int} (hdg : decode cc pc = .ok (.iadd, 1)) (ix : iv x l1 h1) (iy : iv y l2 h2) (q : (-2147483648 ≤ lo ∧ hi ≤ 2147483647) ∧ lo = l1 + l2 ∧ hi = h1 + h2) (kk : ∀ z : Int32, z = x + y → z.toInt = x.toInt + y.toInt → iv z lo hi → W p l e R s m args below meth c H locs cells slots Q (F0 m (pc + 1) ls (.int z :: rest))) : W p l e R s m args below meth c H locs cells slots Q (F0 m pc ls (.int y :: .int x :: rest)) := by
  refine lv_iadd hexec hb hdg (kk _ rfl ?_ ?_)
  · exact iv_addE ix iy (by omega)
  · rw [iv, iv_addE ix iy (by omega)]; omega
theorem i_sub (hexec : p.tables.exec = Jvm.exec) (hb : c.code = cc) {x y : Int32} {l1 h1 l2 h2 lo hi : Int} (hdg : decode cc pc = .ok (.isub, 1)) (ix : iv x l1 h1) (iy : iv y l2 h2) (q : (-2147483648 ≤ lo ∧ hi ≤ 2147483647) ∧ lo = l1 - h2 ∧ hi = h1 - l2) (kk : ∀ z : Int32, z = x - y → z.toInt = x.toInt - y.toInt → iv z lo hi → W p l e R s m args below meth c H locs cells slots Q (F0 m (pc + 1) ls (.int z :: rest))) : W p l e R s m args below meth c H locs cells slots Q (F0 m pc ls (.int y :: .int x :: rest)) := by
  refine lv_isub hexec hb hdg (kk _ rfl ?_ ?_)
  · exact iv_subE ix iy (by omega)
  · rw [iv, iv_subE ix iy (by omega)]; omega
/-- times a constant -/
theorem i_mulc (hexec : p.tables.exec = Jvm.exec) (hb : c.code = cc) {x y : Int32} {l1 h1 k lo hi : Int} (hdg : decode cc pc = .ok (.imul, 1)) (ix : iv x l1 h1) (iy : y.toInt = k) (q : (-2147483648 ≤ lo ∧ hi ≤ 2147483647) ∧ 0 ≤ k ∧ lo = l1 * k ∧ hi = h1 * k) (kk : ∀ z : Int32, z = x * y → z.toInt = x.toInt * k → iv z lo hi → W p l e R s m args below meth c H locs cells slots Q (F0 m (pc + 1) ls (.int z :: rest))) : W p l e R s m args below meth c H locs cells slots Q (F0 m pc ls (.int y :: .int x :: rest)) := by
  obtain ⟨q1, q2, rfl, rfl⟩ := q
  have := iv_mulcE ix iy q2 q1
  exact lv_imul hexec hb hdg (kk _ rfl this.1 this.2)
theorem i_cmul (hexec : p.tables.exec = Jvm.exec) (hb : c.code = cc) {x y : Int32} {l1 h1 k lo hi : Int} (hdg : decode cc pc = .ok (.imul, 1)) (ix : x.toInt = k) (iy : iv y l1 h1) (q : (-2147483648 ≤ lo ∧ hi ≤ 2147483647) ∧ 0 ≤ k ∧ lo = l1 * k ∧ hi = h1 * k) (kk : ∀ z : Int32, z = x * y → z.toInt = y.toInt * k → iv z lo hi → W p l e R s m args below meth c H locs cells slots Q (F0 m (pc + 1) ls (.int z :: rest))) : W p l e R s m args below meth c H locs cells slots Q (F0 m pc ls (.int y :: .int x :: rest)) := by
  obtain ⟨q1, q2, rfl, rfl⟩ := q
  have := iv_mulcE iy ix q2 q1
  rw [Int32.mul_comm] at this
  exact lv_imul hexec hb hdg (kk _ rfl this.1 this.2)
theorem i_mulp (hexec : p.tables.exec = Jvm.exec) (hb : c.code = cc) {x y : Int32} {l1 h1 l2 h2 lo hi : Int} (hdg : decode cc pc = .ok (.imul, 1)) (ix : iv x l1 h1) (iy : iv y l2 h2) (q : hi ≤ 2147483647 ∧ 0 ≤ l1 ∧ 0 ≤ l2 ∧ lo = l1 * l2 ∧ hi = h1 * h2) (kk : ∀ z : Int32, z = x * y → iv z lo hi → W p l e R s m args below meth c H locs cells slots Q (F0 m (pc + 1) ls (.int z :: rest))) : W p l e R s m args below meth c H locs cells slots Q (F0 m pc ls (.int y :: .int x :: rest)) := by
  obtain ⟨q1, q2, q3, rfl, rfl⟩ := q
  exact lv_imul hexec hb hdg (kk _ rfl (iv_mulp ix iy ⟨q2, q3, q1⟩))
theorem i_muls (hexec : p.tables.exec = Jvm.exec) (hb : c.code = cc) {x y : Int32} {k1 k2 lo hi : Int} (hdg : decode cc pc = .ok (.imul, 1)) (ix : iv x (-k1) k1) (iy : iv y (-k2) k2) (q : hi ≤ 2147483647 ∧ 0 ≤ k1 ∧ 0 ≤ k2 ∧ lo = -(k1 * k2) ∧ hi = k1 * k2) (kk : ∀ z : Int32, z = x * y → iv z lo hi → W p l e R s m args below meth c H locs cells slots Q (F0 m (pc + 1) ls (.int z :: rest))) : W p l e R s m args below meth c H locs cells slots Q (F0 m pc ls (.int y :: .int x :: rest)) := by
  obtain ⟨q1, q2, q3, rfl, rfl⟩ := q
  exact lv_imul hexec hb hdg (kk _ rfl (iv_muls ix iy ⟨q2, q3, q1⟩))
/-- the top is some int within, and no more is said of it -/
theorem i_top {x : Int32} {lo hi : Int} (h : iv x lo hi) (kk : ∀ z : Int32, z = x → iv z lo hi → W p l e R s m args below meth c H locs cells slots Q (F0 m pc ls (.int z :: rest))) : W p l e R s m args below meth c H locs cells slots Q (F0 m pc ls (.int x :: rest)) := kk x rfl h
theorem i_topl {x : Int64} {lo hi : Int} (h : ivl x lo hi) (kk : ∀ z : Int64, z = x → ivl z lo hi → W p l e R s m args below meth c H locs cells slots Q (F0 m pc ls (.long z :: rest))) : W p l e R s m args below meth c H locs cells slots Q (F0 m pc ls (.long x :: rest)) := kk x rfl h
/-- loads and stores of rows -/
theorem t_iald (C : hC p s m args meth c cc nL own D G b0) (h : hw D b0 H0 f H locs) (t : TI G β τ f) {n : Nat} {lo hi : Int} (ha : τ a = tg) (h0 : tg ≠ 0) (hT : ∀ e, wf G β τ tg e → isIA G n lo hi e) {i : Int32} (hin : vp_in i n) (hdg : decode cc pc = .ok (.iaload, 1)) (kk : ∀ x : Int32, iv x lo hi → W p l e R s m args below meth c H locs cells slots Q (F0 m (pc + 1) ls (.int x :: rest))) : W p l e R s m args below meth c H locs cells slots Q (F0 m pc ls (.int i :: .ref a :: rest)) := by
  obtain ⟨x, h1, h2⟩ := t.at ha h0
  obtain ⟨r, rfl, h3⟩ := hT _ h2
  exact q_iald C h h1 hin hdg (kk _ (h3 _))
theorem t_bald (C : hC p s m args meth c cc nL own D G b0) (h : hw D b0 H0 f H locs) (t : TI G β τ f) {n : Nat} (ha : τ a = tg) (h0 : tg ≠ 0) (hT : ∀ e, wf G β τ tg e → isBA G n e) {i : Int32} (hin : vp_in i n) (hdg : decode cc pc = .ok (.baload, 1)) (kk : ∀ x : Int32, iv x (-128) 127 → W p l e R s m args below meth c H locs cells slots Q (F0 m (pc + 1) ls (.int x :: rest))) : W p l e R s m args below meth c H locs cells slots Q (F0 m pc ls (.int i :: .ref a :: rest)) := by
  obtain ⟨x, h1, h2⟩ := t.at ha h0
  obtain ⟨r, rfl, h3⟩ := hT _ h2
  exact q_bald C h h1 hin hdg (kk _ (h3 _))
theorem t_bk (C : hC p s m args meth c cc nL own D G b0) (h : hw D b0 H0 f H locs) (t : TI G β τ f) (ha : τ a = tg) (h0 : tg ≠ 0) (hT : ∀ e, wf G β τ tg e → isBK G β e) {i : Int32} {l1 h1 : Int} (ii : iv i l1 h1) (hin : 0 ≤ l1 ∧ h1 < 80) (hdg : decode cc pc = .ok (.iaload, 1)) (kk : ∀ x : Int32, iv x 0 β → W p l e R s m args below meth c H locs cells slots Q (F0 m (pc + 1) ls (.int x :: rest))) : W p l e R s m args below meth c H locs cells slots Q (F0 m pc ls (.int i :: .ref a :: rest)) := by
  obtain ⟨x, h1, h2⟩ := t.at ha h0
  obtain ⟨r, rfl, h3, h4⟩ := hT _ h2
  exact q_iald C h h1 (iv_in ii (by omega)) hdg (kk _ (h3 _ (iv_cl ii (by omega))))
theorem t_bk80 (C : hC p s m args meth c cc nL own D G b0) (h : hw D b0 H0 f H locs) (t : TI G β τ f) (ha : τ a = tg) (h0 : tg ≠ 0) (hT : ∀ e, wf G β τ tg e → isBK G β e) (hdg : decode cc pc = .ok (.iaload, 1)) (kk : ∀ x : Int32, iv x 0 8 → W p l e R s m args below meth c H locs cells slots Q (F0 m (pc + 1) ls (.int x :: rest))) : W p l e R s m args below meth c H locs cells slots Q (F0 m pc ls (.int 80 :: .ref a :: rest)) := by
  obtain ⟨x, h1, h2⟩ := t.at ha h0
  obtain ⟨r, rfl, h3, h4⟩ := hT _ h2
  exact q_iald C h h1 (by unfold vp_in; decide) hdg (kk _ h4)
theorem t_lald (C : hC p s m args meth c cc nL own D G b0) (h : hw D b0 H0 f H locs) (t : TI G β τ f) {n : Nat} (ha : τ a = tg) (h0 : tg ≠ 0) (hT : ∀ e, wf G β τ tg e → isLA G n e) {i : Int32} (hin : vp_in i n) (hdg : decode cc pc = .ok (.laload, 1)) (kk : ∀ x : Int64, W p l e R s m args below meth c H locs cells slots Q (F0 m (pc + 1) ls (.long x :: rest))) : W p l e R s m args below meth c H locs cells slots Q (F0 m pc ls (.int i :: .ref a :: rest)) := by
  obtain ⟨x, h1, h2⟩ := t.at ha h0
  obtain ⟨r, rfl⟩ := hT _ h2
  exact q_lald C h h1 hin hdg (kk _)
theorem t_iast (C : hC p s m args meth c cc nL own D G b0) (h : hw D b0 H0 f H locs) (t : TI G β τ f) (o : Fr S τ f0 f) {n : Nat} {lo hi : Int} (ha : τ a = tg) (h0 : tg ≠ 0) (hS : tg ∈ S) (hT : ∀ e, wf G β τ tg e → isIA G n lo hi e) (hT2 : ∀ e, isIA G n lo hi e → wf G β τ tg e) {i x : Int32} (hin : vp_in i n) (hx : iv x lo hi) (hdg : decode cc pc = .ok (.iastore, 1)) (kk : ∀ (f1 : hM) (H1 : Heap) (locs1 : List Loc), hw D b0 H0 f1 H1 locs1 → TI G β τ f1 → Fr S τ f0 f1 → (∀ q, τ q ≠ tg → f1 q = f q) → W p l e R s m args below meth c H1 locs1 cells slots Q (F0 m (pc + 1) ls rest)) : W p l e R s m args below meth c H locs cells slots Q (F0 m pc ls (.int x :: .int i :: .ref a :: rest)) := by
  obtain ⟨y, h1, h2⟩ := t.at ha h0
  obtain ⟨r, rfl, h3⟩ := hT _ h2
  refine q_iast C h h1 hin hdg (fun H1 locs1 h9 => kk _ H1 locs1 h9 (t.up ha (hT2 _ ⟨_, rfl, fun j => ?_⟩)) (o.upA ha hS h1) (hu_tg ha _))
  unfold upd
  split
  · exact hx
  · exact h3 j
theorem t_last (C : hC p s m args meth c cc nL own D G b0) (h : hw D b0 H0 f H locs) (t : TI G β τ f) (o : Fr S τ f0 f) {n : Nat} (ha : τ a = tg) (h0 : tg ≠ 0) (hS : tg ∈ S) (hT : ∀ e, wf G β τ tg e → isLA G n e) (hT2 : ∀ e, isLA G n e → wf G β τ tg e) {i : Int32} {x : Int64} (hin : vp_in i n) (hdg : decode cc pc = .ok (.lastore, 1)) (kk : ∀ (f1 : hM) (H1 : Heap) (locs1 : List Loc), hw D b0 H0 f1 H1 locs1 → TI G β τ f1 → Fr S τ f0 f1 → (∀ q, τ q ≠ tg → f1 q = f q) → W p l e R s m args below meth c H1 locs1 cells slots Q (F0 m (pc + 1) ls rest)) : W p l e R s m args below meth c H locs cells slots Q (F0 m pc ls (.long x :: .int i :: .ref a :: rest)) := by
  obtain ⟨y, h1, h2⟩ := t.at ha h0
  obtain ⟨r, rfl⟩ := hT _ h2
  exact q_last C h h1 hin hdg (fun H1 locs1 h9 => kk _ H1 locs1 h9 (t.up ha (hT2 _ ⟨_, rfl⟩)) (o.upA ha hS h1) (hu_tg ha _))
theorem t_alen (C : hC p s m args meth c cc nL own D G b0) (h : hw D b0 H0 f H locs) (t : TI G β τ f) {n : Nat} {v : Int32} (ha : τ a = tg) (h0 : tg ≠ 0) (hT : ∀ e, wf G β τ tg e → (∃ lo hi, isIA G n lo hi e) ∨ isLA G n e) (hv : Int32.ofNat n = v) (hdg : decode cc pc = .ok (.arraylength, 1)) (kk : W p l e R s m args below meth c H locs cells slots Q (F0 m (pc + 1) ls (.int v :: rest))) : W p l e R s m args below meth c H locs cells slots Q (F0 m pc ls (.ref a :: rest)) := by
  obtain ⟨x, h1, h2⟩ := t.at ha h0
  rcases hT _ h2 with ⟨lo, hi, r, rfl, h3⟩ | ⟨r, rfl⟩
  · exact q_alen C h 1 (ty := .int) rfl h1 hv hdg kk
  · exact q_alen C h 2 (ty := .long) rfl h1 hv hdg kk
/-- rows of references -/
theorem t_aaldO (C : hC p s m args meth c cc nL own D G b0) (h : hw D b0 H0 f H locs) (t : TI G β τ f) {g n tq : Nat} {Cn : String} (ht : (hgy G)[g]? = some (G g, .object Cn)) (ha : τ a = tg) (h0 : tg ≠ 0) (hT : ∀ e, wf G β τ tg e → isRO G τ g n tq e) {i : Int32} (hin : vp_in i n) (hdg : decode cc pc = .ok (.aaload, 1)) (kk : ∀ q : Option Nat, (∀ z, q = some z → τ z = tq) → W p l e R s m args below meth c H locs cells slots Q (F0 m (pc + 1) ls (va_rf q :: rest))) : W p l e R s m args below meth c H locs cells slots Q (F0 m pc ls (.int i :: .ref a :: rest)) := by
  obtain ⟨x, h1, h2⟩ := t.at ha h0
  obtain ⟨r, rfl, h3⟩ := hT _ h2
  exact q_aald C h g ht h1 hin hdg (kk _ (fun z hz => h3 _ z hz))
theorem q_aaldA (C : hC p s m args meth c cc nL own D G b0) (h : hw D b0 H0 f H locs) (t0 : Nat) {cA : ClassId} {ty : FieldType} (ht : (hgy G)[t0]? = some (cA, .array ty)) {n : Nat} {r : Nat → Option Nat} (hf : f a = some (.inl (cA, n, .inr (.inr (.inr (.inr r)))))) {i : Int32} (hin : vp_in i n) (hdg : decode cc pc = .ok (.aaload, 1)) (kk : W p l e R s m args below meth c H locs cells slots Q (F0 m (pc + 1) ls (va_rf (r i.toNatClampNeg) :: rest))) : W p l e R s m args below meth c H locs cells slots Q (F0 m pc ls (.int i :: .ref a :: rest)) := by
  have hlt : i.toNatClampNeg < n := Nat.not_le.mp fun q => hin (Or.inr q)
  exact W.aald (v := va_rf (r i.toNatClampNeg)) (ty := .array ty) C.1 C.2.1 (h.1 a _ hf) ((C.2.2.2.2.2.1.1.2 t0 _ ht).1 n (fun j => va_rf (r j))) rfl (fun q => by cases q) (by show ¬ (i < 0 ∨ (arrV _ _ _).slots.size ≤ _); rw [arrV_size]; exact hin) (by show (arrV _ _ _).slots[_]? = _; rw [arrV_read _ _ hlt]) rfl rfl hdg kk
theorem t_aaldA (C : hC p s m args meth c cc nL own D G b0) (h : hw D b0 H0 f H locs) (t : TI G β τ f) {g n tq : Nat} {ty : FieldType} (ht : (hgy G)[g]? = some (G g, .array ty)) (ha : τ a = tg) (h0 : tg ≠ 0) (hT : ∀ e, wf G β τ tg e → isRA G τ g n tq e) {i : Int32} (hin : vp_in i n) (hdg : decode cc pc = .ok (.aaload, 1)) (kk : ∀ q : Nat, τ q = tq → W p l e R s m args below meth c H locs cells slots Q (F0 m (pc + 1) ls (.ref q :: rest))) : W p l e R s m args below meth c H locs cells slots Q (F0 m pc ls (.int i :: .ref a :: rest)) := by
  obtain ⟨x, h1, h2⟩ := t.at ha h0
  obtain ⟨r, rfl, h3⟩ := hT _ h2
  obtain ⟨q, e1, e2⟩ := h3 i.toNatClampNeg (Nat.not_le.mp fun q => hin (Or.inr q))
  refine q_aaldA C h g ht h1 hin hdg ?_
  rw [e1]; exact kk q e2
theorem t_aaldR (C : hC p s m args meth c cc nL own D G b0) (h : hw D b0 H0 f H locs) (t : TI G β τ f) {g n tq : Nat} {Cn : String} (ht : (hgy G)[g]? = some (G g, .object Cn)) (ha : τ a = tg) (h0 : tg ≠ 0) (hT : ∀ e, wf G β τ tg e → isRA G τ g n tq e) {i : Int32} (hin : vp_in i n) (hdg : decode cc pc = .ok (.aaload, 1)) (kk : ∀ q : Nat, τ q = tq → W p l e R s m args below meth c H locs cells slots Q (F0 m (pc + 1) ls (.ref q :: rest))) : W p l e R s m args below meth c H locs cells slots Q (F0 m pc ls (.int i :: .ref a :: rest)) := by
  obtain ⟨x, h1, h2⟩ := t.at ha h0
  obtain ⟨r, rfl, h3⟩ := hT _ h2
  obtain ⟨q, e1, e2⟩ := h3 i.toNatClampNeg (Nat.not_le.mp fun q => hin (Or.inr q))
  refine q_aald C h g ht h1 hin hdg ?_
  rw [e1]; exact kk q e2
/-- fields -/
theorem t_get (C : hC p s m args meth c cc nL own D G b0) (h : hw D b0 H0 f H locs) (t : TI G β τ f) {index ci k : Nat} {tys : List (Nat × Int × Int)} {T : Nat × Int × Int} (ha : τ a = tg) (h0 : tg ≠ 0) (hT : ∀ e, wf G β τ tg e → wo τ ci tys e) (hk : tys[k]? = some T) (F : fl own index ci k) (hdg : decode cc pc = .ok (.getfield index, 3)) (kk : ∀ v, tv τ T v → W p l e R s m args below meth c H locs cells slots Q (F0 m (pc + 3) ls (v :: rest))) : W p l e R s m args below meth c H locs cells slots Q (F0 m pc ls (.ref a :: rest)) := by
  obtain ⟨x, h1, h2⟩ := t.at ha h0
  obtain ⟨fs, rfl, -, h3⟩ := hT _ h2
  obtain ⟨v, e1, e2⟩ := h3 k T hk
  exact q_get C h h1 F e1 hdg (kk v e2)
theorem t_geti (C : hC p s m args meth c cc nL own D G b0) (h : hw D b0 H0 f H locs) (t : TI G β τ f) {index ci k : Nat} {tys : List (Nat × Int × Int)} {lo hi : Int} (ha : τ a = tg) (h0 : tg ≠ 0) (hT : ∀ e, wf G β τ tg e → wo τ ci tys e) (hk : tys[k]? = some (0, lo, hi)) (F : fl own index ci k) (hdg : decode cc pc = .ok (.getfield index, 3)) (kk : ∀ x : Int32, iv x lo hi → W p l e R s m args below meth c H locs cells slots Q (F0 m (pc + 3) ls (.int x :: rest))) : W p l e R s m args below meth c H locs cells slots Q (F0 m pc ls (.ref a :: rest)) :=
  t_get C h t ha h0 hT hk F hdg (fun v hv => by obtain ⟨x, rfl, h1⟩ := hv; exact kk x h1)
theorem t_getl (C : hC p s m args meth c cc nL own D G b0) (h : hw D b0 H0 f H locs) (t : TI G β τ f) {index ci k : Nat} {tys : List (Nat × Int × Int)} {lo hi : Int} (ha : τ a = tg) (h0 : tg ≠ 0) (hT : ∀ e, wf G β τ tg e → wo τ ci tys e) (hk : tys[k]? = some (1, lo, hi)) (F : fl own index ci k) (hdg : decode cc pc = .ok (.getfield index, 3)) (kk : ∀ x : Int64, W p l e R s m args below meth c H locs cells slots Q (F0 m (pc + 3) ls (.long x :: rest))) : W p l e R s m args below meth c H locs cells slots Q (F0 m pc ls (.ref a :: rest)) :=
  t_get C h t ha h0 hT hk F hdg (fun v hv => by obtain ⟨x, rfl⟩ := hv; exact kk x)
theorem t_getr (C : hC p s m args meth c cc nL own D G b0) (h : hw D b0 H0 f H locs) (t : TI G β τ f) {index ci k tq : Nat} {tys : List (Nat × Int × Int)} {hi : Int} (ha : τ a = tg) (h0 : tg ≠ 0) (hT : ∀ e, wf G β τ tg e → wo τ ci tys e) (hk : tys[k]? = some (2, (tq : Int), hi)) (F : fl own index ci k) (hdg : decode cc pc = .ok (.getfield index, 3)) (kk : ∀ q : Nat, τ q = tq → W p l e R s m args below meth c H locs cells slots Q (F0 m (pc + 3) ls (.ref q :: rest))) : W p l e R s m args below meth c H locs cells slots Q (F0 m pc ls (.ref a :: rest)) :=
  t_get C h t ha h0 hT hk F hdg (fun v hv => by obtain ⟨x, rfl, h1⟩ := hv; exact kk x (h1.trans (Int.toNat_natCast tq)))
theorem t_geto (C : hC p s m args meth c cc nL own D G b0) (h : hw D b0 H0 f H locs) (t : TI G β τ f) {index ci k tq : Nat} {tys : List (Nat × Int × Int)} {hi : Int} (ha : τ a = tg) (h0 : tg ≠ 0) (hT : ∀ e, wf G β τ tg e → wo τ ci tys e) (hk : tys[k]? = some (3, (tq : Int), hi)) (F : fl own index ci k) (hdg : decode cc pc = .ok (.getfield index, 3)) (kk : ∀ q : Option Nat, (∀ z, q = some z → τ z = tq) → W p l e R s m args below meth c H locs cells slots Q (F0 m (pc + 3) ls (va_rf q :: rest))) : W p l e R s m args below meth c H locs cells slots Q (F0 m pc ls (.ref a :: rest)) :=
  t_get C h t ha h0 hT hk F hdg (fun v hv => by obtain ⟨x, rfl, h1⟩ := hv; exact kk x (fun z hz => (h1 z hz).trans (Int.toNat_natCast tq)))
theorem wo_set {τ : Nat → Nat} {ci k : Nat} {tys : List (Nat × Int × Int)} {fs : List Value} {T : Nat × Int × Int} {v : Value} (hl : fs.length = tys.length) (h : ∀ (k : Nat) (T : Nat × Int × Int), tys[k]? = some T → ∃ v, fs[k]? = some v ∧ tv τ T v) (hk : tys[k]? = some T) (hv : tv τ T v) : wo τ ci tys (.inr (ci, fs.set k v)) := by
  refine ⟨_, rfl, by rw [List.length_set]; exact hl, fun j T2 hj => ?_⟩
  have hkl : k < fs.length := by rw [hl]; exact (List.getElem?_eq_some_iff.mp hk).1
  by_cases e : k = j
  · subst e
    rw [hk] at hj; cases hj
    exact ⟨v, by rw [List.getElem?_set_self hkl], hv⟩
  · rw [List.getElem?_set_ne e]; exact h j T2 hj
theorem fd_set {k j : Nat} {v w : Value} {ci : Nat} {fs : List Value} (hn : k ≠ j) (h : fs[k]? = some v) : fd k v (.inr (ci, fs.set j w)) := ⟨ci, _, rfl, by rw [List.getElem?_set_ne (fun z => hn z.symm)]; exact h⟩
theorem t_put (C : hC p s m args meth c cc nL own D G b0) (h : hw D b0 H0 f H locs) (t : TI G β τ f) (o : Fr S τ f0 f) {index ci k : Nat} {tys : List (Nat × Int × Int)} {T : Nat × Int × Int} {ty : FieldType} {v : Value} (ha : τ a = tg) (h0 : tg ≠ 0) (hS : tg ∈ S) (hS2 : 1000 * tg + k + 1 ∈ S) (hT : ∀ e, wf G β τ tg e → wo τ ci tys e) (hT2 : ∀ e, wo τ ci tys e → wf G β τ tg e) (hk : tys[k]? = some T) (F : flw own index ci k ty) (hini : meth.name = "<init>" ∨ (∃ (T : u_T) (Cn : String) (N : Nat), vwCl[ci]? = some (Cn, T, N) ∧ (T k).2.2.2 = false)) (hn : narrow ty v = v) (hfit : fits ty v = true) (hv : tv τ T v) (hdg : decode cc pc = .ok (.putfield index, 3))
    (kk : ∀ (f1 : hM) (H1 : Heap) (locs1 : List Loc), hw D b0 H0 f1 H1 locs1 → TI G β τ f1 → Fr S τ f0 f1 → (∀ q, τ q ≠ tg → f1 q = f q) → atp f1 a (fd k v) → (∀ q, q ≠ a → f1 q = f q) → (∀ j w, j ≠ k → atp f a (fd j w) → atp f1 a (fd j w)) → W p l e R s m args below meth c H1 locs1 cells slots Q (F0 m (pc + 3) ls rest)) : W p l e R s m args below meth c H locs cells slots Q (F0 m pc ls (v :: .ref a :: rest)) := by
  obtain ⟨y, h1, h2⟩ := t.at ha h0
  obtain ⟨fs, rfl, hl, h3⟩ := hT _ h2
  have hkl : k < fs.length := by rw [hl]; exact (List.getElem?_eq_some_iff.mp hk).1
  refine q_put C h h1 F hini hn hfit hkl hdg (fun H1 locs1 h9 => kk _ H1 locs1 h9 (t.up ha (hT2 _ (wo_set hl h3 hk hv))) (o.upF ha hS hS2 h1) (hu_tg ha _) ⟨_, hu_self _ _ _, ci, _, rfl, by rw [List.getElem?_set_self hkl]⟩ (fun q hq => hu_ne hq) ?_)
  intro j w hj hw
  obtain ⟨e0, q1, ci2, fs2, rfl, q2⟩ := hw
  rw [h1] at q1; cases q1
  exact ⟨_, hu_self _ _ _, fd_set hj q2⟩
/-- returns -/
theorem u_iret (C : hC p s m args meth c cc nL own D G b0) (h : hw D b0 s.heap f H locs) (hr : meth.sig.returnType = some .int) {post : Int32 → hM → Prop} {v : Int32} {mc ms : Nat} (hQ : Q = MQ below (va_Qi post (hPost D b0) (hA b0)) args s mc ms (hA b0)) (hp : post v f) (hc : cells ≤ mc) (hs : slots ≤ ms) (hdg : decode cc pc = .ok (.ireturn, 1)) : W p l e R s m args below meth c H locs cells slots Q (F0 m pc ls [.int v]) := by subst hQ; exact q_iret C h hr hp hc hs hdg
theorem u_zret (C : hC p s m args meth c cc nL own D G b0) (h : hw D b0 s.heap f H locs) (hr : meth.sig.returnType = some .boolean) {post : Int32 → hM → Prop} {v : Int32} {mc ms : Nat} (hQ : Q = MQ below (va_Qi post (hPost D b0) (hA b0)) args s mc ms (hA b0)) (hv : iv v 0 1) (hp : post v f) (hc : cells ≤ mc) (hs : slots ≤ ms) (hdg : decode cc pc = .ok (.ireturn, 1)) : W p l e R s m args below meth c H locs cells slots Q (F0 m pc ls [.int v]) := by
  subst hQ
  refine q_zret C h hr ?_ hp hc hs hdg
  have : v.toInt = 0 ∨ v.toInt = 1 := by omega
  rcases this with q | q
  · exact Or.inl (Int32.toInt_inj.mp (q.trans rfl))
  · exact Or.inr (Int32.toInt_inj.mp (q.trans rfl))
theorem u_lret (C : hC p s m args meth c cc nL own D G b0) (h : hw D b0 s.heap f H locs) (hr : meth.sig.returnType = some .long) {post : Int64 → hM → Prop} {v : Int64} {mc ms : Nat} (hQ : Q = MQ below (va_Ql post (hPost D b0) (hA b0)) args s mc ms (hA b0)) (hp : post v f) (hc : cells ≤ mc) (hs : slots ≤ ms) (hdg : decode cc pc = .ok (.lreturn, 1)) : W p l e R s m args below meth c H locs cells slots Q (F0 m pc ls [.long v]) := by subst hQ; exact q_lret C h hr hp hc hs hdg
theorem u_vret (C : hC p s m args meth c cc nL own D G b0) (h : hw D b0 s.heap f H locs) (hr : meth.sig.returnType = none) {post : hM → Prop} {mc ms : Nat} (hQ : Q = MQ below (va_Qv post (hPost D b0) (hA b0)) args s mc ms (hA b0)) (hp : post f) (hc : cells ≤ mc) (hs : slots ≤ ms) (hdg : decode cc pc = .ok (.return_, 1)) : W p l e R s m args below meth c H locs cells slots Q (F0 m pc ls []) := by subst hQ; exact q_vret C h hr hp hc hs hdg
theorem u_aret (C : hC p s m args meth c cc nL own D G b0) (h : hw D b0 s.heap f H locs) {rt : FieldType} (hr : meth.sig.returnType = some rt) (hrt : (∃ n, rt = .object n) ∨ ∃ t, rt = .array t) {post : Option Nat → hM → Prop} {v : Option Nat} {mc ms : Nat} (hQ : Q = MQ below (va_Qq post (hPost D b0) (hA b0)) args s mc ms (hA b0)) (hp : post v f) (hc : cells ≤ mc) (hs : slots ≤ ms) {w : Value} (hw0 : w = va_rf v) (hdg : decode cc pc = .ok (.areturn, 1)) : W p l e R s m args below meth c H locs cells slots Q (F0 m pc ls [w]) := by subst hQ; exact q_aret C h hr hrt hp hc hs hw0 hdg
/-- the receiver of a call, by its tag -/
theorem t_rec {G : Nat → Nat} {β : Int} {τ : Nat → Nat} {f : hM} (t : TI G β τ f) {a tg ci : Nat} {tys : List (Nat × Int × Int)} (ha : τ a = tg) (h0 : tg ≠ 0) (hT : ∀ e, wf G β τ tg e → wo τ ci tys e) : ∃ fs, f a = some (.inr (ci, fs)) := by
  obtain ⟨y, h1, h2⟩ := t.at ha h0
  obtain ⟨fs, rfl, -⟩ := hT _ h2
  exact ⟨fs, h1⟩
theorem i_addk (hexec : p.tables.exec = Jvm.exec) (hb : c.code = cc) {x y : Int32} {l1 h1 k lo hi : Int} (hdg : decode cc pc = .ok (.iadd, 1)) (ix : iv x l1 h1) (iy : y.toInt = k) (q : (-2147483648 ≤ lo ∧ hi ≤ 2147483647) ∧ lo = l1 + k ∧ hi = h1 + k) (kk : ∀ z : Int32, z = x + y → z.toInt = x.toInt + k → iv z lo hi → W p l e R s m args below meth c H locs cells slots Q (F0 m (pc + 1) ls (.int z :: rest))) : W p l e R s m args below meth c H locs cells slots Q (F0 m pc ls (.int y :: .int x :: rest)) :=
  i_add hexec hb hdg ix (iv_k iy) (by omega) (fun z e1 e2 e3 => kk z e1 (by rw [← iy]; exact e2) e3)
theorem i_kadd (hexec : p.tables.exec = Jvm.exec) (hb : c.code = cc) {x y : Int32} {l1 h1 k lo hi : Int} (hdg : decode cc pc = .ok (.iadd, 1)) (ix : x.toInt = k) (iy : iv y l1 h1) (q : (-2147483648 ≤ lo ∧ hi ≤ 2147483647) ∧ lo = k + l1 ∧ hi = k + h1) (kk : ∀ z : Int32, z = x + y → z.toInt = k + y.toInt → iv z lo hi → W p l e R s m args below meth c H locs cells slots Q (F0 m (pc + 1) ls (.int z :: rest))) : W p l e R s m args below meth c H locs cells slots Q (F0 m pc ls (.int y :: .int x :: rest)) :=
  i_add hexec hb hdg (iv_k ix) iy (by omega) (fun z e1 e2 e3 => kk z e1 (by rw [← ix]; exact e2) e3)
theorem i_subk (hexec : p.tables.exec = Jvm.exec) (hb : c.code = cc) {x y : Int32} {l1 h1 k lo hi : Int} (hdg : decode cc pc = .ok (.isub, 1)) (ix : iv x l1 h1) (iy : y.toInt = k) (q : (-2147483648 ≤ lo ∧ hi ≤ 2147483647) ∧ lo = l1 - k ∧ hi = h1 - k) (kk : ∀ z : Int32, z = x - y → z.toInt = x.toInt - k → iv z lo hi → W p l e R s m args below meth c H locs cells slots Q (F0 m (pc + 1) ls (.int z :: rest))) : W p l e R s m args below meth c H locs cells slots Q (F0 m pc ls (.int y :: .int x :: rest)) :=
  i_sub hexec hb hdg ix (iv_k iy) (by omega) (fun z e1 e2 e3 => kk z e1 (by rw [← iy]; exact e2) e3)
theorem i_ksub (hexec : p.tables.exec = Jvm.exec) (hb : c.code = cc) {x y : Int32} {l1 h1 k lo hi : Int} (hdg : decode cc pc = .ok (.isub, 1)) (ix : x.toInt = k) (iy : iv y l1 h1) (q : (-2147483648 ≤ lo ∧ hi ≤ 2147483647) ∧ lo = k - h1 ∧ hi = k - l1) (kk : ∀ z : Int32, z = x - y → z.toInt = k - y.toInt → iv z lo hi → W p l e R s m args below meth c H locs cells slots Q (F0 m (pc + 1) ls (.int z :: rest))) : W p l e R s m args below meth c H locs cells slots Q (F0 m pc ls (.int y :: .int x :: rest)) :=
  i_sub hexec hb hdg (iv_k ix) iy (by omega) (fun z e1 e2 e3 => kk z e1 (by rw [← ix]; exact e2) e3)
theorem i_inc (hexec : p.tables.exec = Jvm.exec) (hb : c.code = cc) {i nL k : Nat} {n : Int} {x : Int32} {l1 h1 lo hi : Int} {lv : List (Nat × Value)} {lv' : Int32 → List (Nat × Value)} (hdg : decode cc pc = .ok (.iinc i n, 3)) (h : lv_has ls nL lv) (hk : lv[k]? = some (i, .int x)) (ix : iv x l1 h1) (hn0 : (Int32.ofInt n).toInt = n) (q : (-2147483648 ≤ lo ∧ hi ≤ 2147483647) ∧ lo = l1 + n ∧ hi = h1 + n) (hn : i < nL) (hl : ∀ v, (i, Value.int v) :: lv.filter (fun q => !(q.1 == i) && !(q.1 + 1 == i && q.2.category == 2)) = lv' v)
    (kk : ∀ (z : Int32) (ls' : Array Slot), z = x + Int32.ofInt n → z.toInt = x.toInt + n → iv z lo hi → lv_has ls' nL (lv' z) → W p l e R s m args below meth c H locs cells slots Q (F0 m (pc + 3) ls' rest)) : W p l e R s m args below meth c H locs cells slots Q (F0 m pc ls rest) := by
  have e1 : (x + Int32.ofInt n).toInt = x.toInt + n := by rw [iv_addE ix (iv_k hn0) (by omega), hn0]
  exact lv_iinc hexec hb hdg h hk rfl hn (hl _) (fun ls' h2 => kk _ ls' rfl e1 (by rw [iv, e1]; omega) h2)
theorem t_getfd (C : hC p s m args meth c cc nL own D G b0) (h : hw D b0 H0 f H locs) (t : TI G β τ f) {index ci k : Nat} {tys : List (Nat × Int × Int)} {v : Value} (ha : τ a = tg) (h0 : tg ≠ 0) (hT : ∀ e, wf G β τ tg e → wo τ ci tys e) (hv : atp f a (fd k v)) (F : fl own index ci k) (hdg : decode cc pc = .ok (.getfield index, 3)) (kk : W p l e R s m args below meth c H locs cells slots Q (F0 m (pc + 3) ls (v :: rest))) : W p l e R s m args below meth c H locs cells slots Q (F0 m pc ls (.ref a :: rest)) := by
  obtain ⟨fs, h1⟩ : ∃ fs, f a = some (.inr (ci, fs)) := by
    obtain ⟨y, h1, h2⟩ := t.at ha h0
    obtain ⟨fs, rfl, -⟩ := hT _ h2
    exact ⟨fs, h1⟩
  obtain ⟨e2, q1, ci2, fs2, rfl, q2⟩ := hv
  rw [h1] at q1; cases q1
  exact q_get C h h1 F q2 hdg kk
end TRows
