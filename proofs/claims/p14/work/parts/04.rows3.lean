/-! ===== third layer: rows for the second generator ===== -/
theorem Fr.nil2 {τ : Nat → Nat} {f g : hM} (h : Fr [] τ f g) : f = g := (Fr.nil h).symm
theorem ix_o {i : Int32} {n : Nat} (h : 0 ≤ i.toInt ∧ i.toInt < (n : Int)) : vp_in i n := vp_in_iff.mpr h
theorem inz_o {i : Int32} (h : ¬ i.toInt = 0) : ¬ i = 0 := fun z => h (by rw [z]; rfl)
theorem lnz_o {i : Int64} (h : ¬ i.toInt = 0) : ¬ i = 0 := fun z => h (by rw [z]; rfl)
theorem iv_cl_ {a b : Int} {l1 h1 l2 h2 : Int} (c : a < b) (ha : l1 ≤ a ∧ a ≤ h1) (hb : l2 ≤ b ∧ b ≤ h2) (q : h2 ≤ l1) : False := by omega
theorem iv_ce_ {a b : Int} {l1 h1 l2 h2 : Int} (c : a ≤ b) (ha : l1 ≤ a ∧ a ≤ h1) (hb : l2 ≤ b ∧ b ≤ h2) (q : h2 < l1) : False := by omega
theorem iv_cq_ {a b : Int} {l1 h1 l2 h2 : Int} (c : a = b) (ha : l1 ≤ a ∧ a ≤ h1) (hb : l2 ≤ b ∧ b ≤ h2) (q : h2 < l1 ∨ h1 < l2) : False := by omega
theorem iv_cn_ {a b : Int} {l1 h1 l2 h2 : Int} (c : a ≠ b) (ha : l1 ≤ a ∧ a ≤ h1) (hb : l2 ≤ b ∧ b ≤ h2) (q : l1 = h1 ∧ l2 = h2 ∧ l1 = l2) : False := by omega
theorem iv_Ll {x : Int32} {b : Int} {l1 h1 l2 h2 lo hi : Int} (c : x.toInt < b) (ha : iv x l1 h1) (hb : l2 ≤ b ∧ b ≤ h2) (q : lo = l1 ∧ hi = h2 - 1) : iv x lo hi := by omega
theorem iv_El {x : Int32} {b : Int} {l1 h1 l2 h2 lo hi : Int} (c : x.toInt ≤ b) (ha : iv x l1 h1) (hb : l2 ≤ b ∧ b ≤ h2) (q : lo = l1 ∧ hi = h2) : iv x lo hi := by omega
theorem iv_Lr {x : Int32} {a : Int} {l1 h1 l2 h2 lo hi : Int} (c : a < x.toInt) (ha : l1 ≤ a ∧ a ≤ h1) (hb : iv x l2 h2) (q : lo = l1 + 1 ∧ hi = h2) : iv x lo hi := by omega
theorem iv_Er {x : Int32} {a : Int} {l1 h1 l2 h2 lo hi : Int} (c : a ≤ x.toInt) (ha : l1 ≤ a ∧ a ≤ h1) (hb : iv x l2 h2) (q : lo = l1 ∧ hi = h2) : iv x lo hi := by omega
theorem iv_Q {x : Int32} {b : Int} {l1 h1 l2 h2 lo hi : Int} (c : x.toInt = b) (ha : iv x l1 h1) (hb : l2 ≤ b ∧ b ≤ h2) (q : (lo = l1 ∨ lo = l2) ∧ (hi = h1 ∨ hi = h2)) : iv x lo hi := by omega
theorem iv_Nl {x : Int32} {b l h lo : Int} (c : x.toInt ≠ b) (ha : iv x l h) (q : b = l ∧ lo = l + 1) : iv x lo h := by omega
theorem iv_Nh {x : Int32} {b l h hi : Int} (c : x.toInt ≠ b) (ha : iv x l h) (q : b = h ∧ hi = h - 1) : iv x l hi := by omega
theorem iv_cl1 {a b : Int32} {l1 h1 l2 h2 : Int} (c : a.toInt < b.toInt) (ha : iv a l1 h1) (hb : iv b l2 h2) (q : h2 ≤ l1) : False := by omega
theorem va_rfc (o : Option Nat) : o = none ∨ ∃ q, o = some q := by cases o with
  | none => exact Or.inl rfl
  | some q => exact Or.inr ⟨q, rfl⟩
theorem iv_shr1 {x : Int32} {l h lo hi : Int} (hx : iv x l h) (q : 0 ≤ l ∧ lo = 0 ∧ h / 2 ≤ hi) : (x >>> ((1 : Int32) &&& 31)).toInt = x.toInt / 2 ∧ iv (x >>> ((1 : Int32) &&& 31)) lo hi := by
  have e : (x >>> ((1 : Int32) &&& 31)).toInt = x.toInt / 2 := by
    have e1 : ((1 : Int32) &&& 31) = 1 := by decide
    rw [e1]
    show (x.toBitVec.sshiftRight' ((1 : Int32).toBitVec.smod 32)).toInt = _
    have e2 : ((1 : Int32).toBitVec.smod 32) = 1#32 := by decide
    rw [e2]
    show (x.toBitVec.sshiftRight (1#32).toNat).toInt = _
    rw [BitVec.toInt_sshiftRight]
    show x.toInt >>> 1 = _
    rw [Int.shiftRight_eq_div_pow]; rfl
  exact ⟨e, by rw [iv, e]; omega⟩
theorem iv_negm {x : Int32} {l h : Int} (hx : iv x l h) (q : -2147483648 < l) : (-x).toInt = -x.toInt ∧ iv (-x) (-h) (-l) := by
  have hr := iv_rng x
  have e : (-x).toInt = -x.toInt := by rw [Int32.toInt_neg, iv_bm (by omega) (by omega)]
  exact ⟨e, by rw [iv, e]; omega⟩
theorem iv_remm {x y : Int32} {h l2 h2 : Int} (hx : iv x 0 h) (hy : iv y l2 h2) (hk : 0 < l2) : ((x - x / y * y).toInt < y.toInt ∧ (x - x / y * y).toInt ≤ x.toInt) ∧ iv (x - x / y * y) 0 (h2 - 1) := by
  have e : (x - x / y * y).toInt = x.toInt % y.toInt := by rw [rem_toInt, Int.tmod_eq_emod_of_nonneg hx.1]
  have h1 := Int.emod_nonneg x.toInt (b := y.toInt) (by omega)
  have h2 := Int.emod_lt_of_pos x.toInt (b := y.toInt) (by omega)
  refine ⟨⟨by omega, ?_⟩, by rw [iv, e]; omega⟩
  rw [e]
  by_cases q : x.toInt < y.toInt
  · rw [Int.emod_eq_of_lt hx.1 q]; exact Int.le_refl _
  · omega
theorem iv_and1 {x y : Int32} {l1 h1 l2 h2 : Int} (hx : iv x l1 h1) (hy : iv y l2 h2) (q : 0 ≤ l1 ∧ h1 ≤ 1 ∧ 0 ≤ l2 ∧ h2 ≤ 1) : iv (x &&& y) 0 1 := by
  have hx1 : x = 0 ∨ x = 1 := by
    have : x.toInt = 0 ∨ x.toInt = 1 := by omega
    rcases this with z | z
    · exact Or.inl (Int32.toInt_inj.mp (z.trans rfl))
    · exact Or.inr (Int32.toInt_inj.mp (z.trans rfl))
  have hy1 : y = 0 ∨ y = 1 := by
    have : y.toInt = 0 ∨ y.toInt = 1 := by omega
    rcases this with z | z
    · exact Or.inl (Int32.toInt_inj.mp (z.trans rfl))
    · exact Or.inr (Int32.toInt_inj.mp (z.trans rfl))
  rcases hx1 with rfl | rfl <;> rcases hy1 with rfl | rfl <;> exact ⟨by decide, by decide⟩
theorem iv_i2b (x : Int32) : iv x.toInt8.toInt32 (-128) 127 := by
  rw [iv, Int8.toInt_toInt32]
  exact ⟨Int8.le_toInt _, by have := Int8.toInt_lt x.toInt8; omega⟩
theorem iv_l2i {x : Int64} {l h : Int} (hx : ivl x l h) (q : -2147483648 ≤ l ∧ h ≤ 2147483647) : iv x.toInt32 l h := by
  rw [iv, Int64.toInt_toInt32, iv_bm (by omega) (by omega)]; exact hx
theorem lrem_t (x y : Int64) : (x - (x / y) * y).toInt = x.toInt.tmod y.toInt := by
  have a := (x % y).toInt_lt; have b := (x % y).le_toInt
  rw [Int64.toInt_mod] at a b
  rw [Int64.toInt_sub, Int64.toInt_mul, Int64.toInt_div, Int.bmod_mul_bmod, Int.sub_bmod_bmod, Int.mul_comm, ← Int.tmod_def]
  rw [Int.bmod_def]; split <;> omega
theorem lrem_iv {x y : Int64} {k lo hi : Int} (hy : y.toInt = k) (hk : 0 < k) (q : lo = -(k - 1) ∧ hi = k - 1) : ivl (x - x / y * y) lo hi := by
  have e : (x - x / y * y).toInt = x.toInt.tmod k := by
    rw [lrem_t, hy]
  rw [ivl, e]
  have h1 := Int.lt_tmod_of_pos x.toInt hk
  have h2 := Int.tmod_lt_of_pos x.toInt hk
  omega
theorem lcmp_m (x y : Int64) : ((lg_cmp x y).toInt < 0 ↔ x.toInt < y.toInt) ∧ (0 < (lg_cmp x y).toInt ↔ y.toInt < x.toInt) := by
  have e1 : (-1 : Int32).toInt = -1 := rfl
  have e2 : (0 : Int32).toInt = 0 := rfl
  have e3 : (1 : Int32).toInt = 1 := rfl
  unfold lg_cmp
  simp only [gt_iff_lt, Int64.lt_iff_toInt_lt, ← Int64.toInt_inj]
  repeat' split
  all_goals omega
/-- the first c numbers of that row are not below 0 -/
def lpre (G : Nat → Nat) (c : Int) (e : va_E) : Prop := ∃ r : Nat → Int32, e = .inl (G 1, 28, .inl r) ∧ ∀ j : Nat, (j : Int) < c → 0 ≤ (r j).toInt
theorem lpre0 {G : Nat → Nat} {β : Int} {τ : Nat → Nat} {f : hM} (t : TI G β τ f) {a : Nat} (ha : τ a = 75) : atp f a (lpre G 0) := by
  obtain ⟨x, h1, h2⟩ := t.at ha (by decide)
  obtain ⟨r, rfl, h3⟩ := wf_75 _ h2
  exact ⟨_, h1, r, rfl, fun j hj => by omega⟩
/-- a reference in a field -/
theorem t_fref {G : Nat → Nat} {β : Int} {τ : Nat → Nat} {f : hM} (t : TI G β τ f) {a tg tq ci k : Nat} {tys : List (Nat × Int × Int)} {hi : Int} (ha : τ a = tg) (h0 : tg ≠ 0) (hT : ∀ e, wf G β τ tg e → wo τ ci tys e) (hk : tys[k]? = some (2, (tq : Int), hi)) : ∃ q, τ q = tq ∧ atp f a (fd k (.ref q)) := by
  obtain ⟨x, h1, h2⟩ := t.at ha h0
  obtain ⟨fs, rfl, -, h3⟩ := hT _ h2
  obtain ⟨v, e1, q, rfl, e2⟩ := h3 k _ hk
  exact ⟨q, e2.trans (Int.toNat_natCast tq), _, h1, _, _, rfl, e1⟩
theorem st_b0 : ∀ j, j < 8 → iv (st_at 0 j) (-1) 1 := by decide
theorem st_b1 : ∀ j, j < 8 → iv (st_at 1 j) (-1) 1 := by decide
theorem st_b2 : ∀ j, j < 8 → iv (st_at 2 j) 0 7 := by decide
theorem st_b3 : ∀ j, j < 8 → iv (st_at 3 j) 0 7 := by decide
theorem st_b4 : ∀ j, j < 8 → iv (st_at 4 j) 0 7 := by decide
theorem st_b5 : ∀ j, j < 8 → iv (st_at 5 j) 0 7 := by decide
section URows
variable {p : Program} {l : Launch} {e : Env} {R : Room} {s : State} {m : MethodId} {args : Array Value} {below : List Frame} {meth : Method} {c : Code} {H : Heap} {locs : List Loc} {cells slots : Nat} {Q : State → Prop}
variable {cc : ByteArray} {nL pc : Nat} {ls : Array Slot} {rest : List Value} {D : va_G} {G : Nat → Nat} {b0 a : Nat} {f f0 : hM} {own : String} {H0 : Heap} {τ : Nat → Nat} {β : Int} {tg : Nat} {S : List Nat}
theorem i_topm {x : Int32} {lo hi : Int} {P : Int → Prop} (h : P x.toInt ∧ iv x lo hi) (kk : ∀ z : Int32, z = x → P z.toInt → iv z lo hi → W p l e R s m args below meth c H locs cells slots Q (F0 m pc ls (.int z :: rest))) : W p l e R s m args below meth c H locs cells slots Q (F0 m pc ls (.int x :: rest)) := kk x rfl h.1 h.2
theorem i_topL {x : Int32} {lo hi : Int} (h : iv x lo hi) (kk : ∀ z : Int64, z = x.toInt64 → z.toInt = x.toInt → ivl z lo hi → W p l e R s m args below meth c H locs cells slots Q (F0 m pc ls (.long z :: rest))) : W p l e R s m args below meth c H locs cells slots Q (F0 m pc ls (.long x.toInt64 :: rest)) := kk _ rfl (Int32.toInt_toInt64 x) (iv_i2l x h)
theorem i_topc {x y : Int64} (kk : ∀ z : Int32, z = lg_cmp x y → ((z.toInt < 0 ↔ x.toInt < y.toInt) ∧ (0 < z.toInt ↔ y.toInt < x.toInt)) → iv z (-1) 1 → W p l e R s m args below meth c H locs cells slots Q (F0 m pc ls (.int z :: rest))) : W p l e R s m args below meth c H locs cells slots Q (F0 m pc ls (.int (lg_cmp x y) :: rest)) := kk _ rfl (lcmp_m x y) (iv_cmp x y)
theorem i_max {x y : Int32} {l1 h1 l2 h2 lo hi : Int} (ix : iv x l1 h1) (iy : iv y l2 h2) (q : lo ≤ max l1 l2 ∧ max h1 h2 ≤ hi) (kk : ∀ z : Int32, (x.toInt ≤ z.toInt ∧ y.toInt ≤ z.toInt ∧ (z.toInt = x.toInt ∨ z.toInt = y.toInt)) → iv z lo hi → W p l e R s m args below meth c H locs cells slots Q (F0 m pc ls (.int z :: rest))) : W p l e R s m args below meth c H locs cells slots Q (F0 m pc ls (.int (if x < y then y else x) :: rest)) := by
  refine kk _ ?_ ?_ <;> split <;> rename_i h <;> rw [Int32.lt_iff_toInt_lt] at h <;> omega
theorem i_min {x y : Int32} {l1 h1 l2 h2 lo hi : Int} (ix : iv x l1 h1) (iy : iv y l2 h2) (q : lo ≤ min l1 l2 ∧ min h1 h2 ≤ hi) (kk : ∀ z : Int32, (z.toInt ≤ x.toInt ∧ z.toInt ≤ y.toInt ∧ (z.toInt = x.toInt ∨ z.toInt = y.toInt)) → iv z lo hi → W p l e R s m args below meth c H locs cells slots Q (F0 m pc ls (.int z :: rest))) : W p l e R s m args below meth c H locs cells slots Q (F0 m pc ls (.int (if y < x then y else x) :: rest)) := by
  refine kk _ ?_ ?_ <;> split <;> rename_i h <;> rw [Int32.lt_iff_toInt_lt] at h <;> omega
theorem t_bkA (C : hC p s m args meth c cc nL own D G b0) (h : hw D b0 H0 f H locs) (t : TI G β τ f) (ha : τ a = tg) (h0 : tg ≠ 0) (hT : ∀ e, wf G β τ tg e → isBK G β e) {i : Int32} {l1 h1 hi : Int} (ii : iv i l1 h1) (hin : 0 ≤ l1 ∧ h1 ≤ 80) (hb : 8 ≤ hi ∧ β ≤ hi) (hdg : decode cc pc = .ok (.iaload, 1)) (kk : ∀ x : Int32, iv x 0 hi → W p l e R s m args below meth c H locs cells slots Q (F0 m (pc + 1) ls (.int x :: rest))) : W p l e R s m args below meth c H locs cells slots Q (F0 m pc ls (.int i :: .ref a :: rest)) := by
  obtain ⟨x, h1, h2⟩ := t.at ha h0
  obtain ⟨r, rfl, h3, h4⟩ := hT _ h2
  refine q_iald C h h1 (iv_in ii (by omega)) hdg (kk _ ?_)
  have hc := iv_cl ii (n := 81) (by omega)
  by_cases q : i.toNatClampNeg < 80
  · exact iv_w (h3 _ q) (by omega)
  · have e : i.toNatClampNeg = 80 := by omega
    rw [e]; exact iv_w h4 (by omega)
theorem lv_aloadO (hexec : p.tables.exec = Jvm.exec) (hb : c.code = cc) {i : Nat} {o : Option Nat} (hdg : decode cc pc = .ok (.aload i, 2)) (hl : ls[i]? = some (.val (va_rf o))) (kk : W p l e R s m args below meth c H locs cells slots Q (F0 m (pc + 2) ls (va_rf o :: rest))) : W p l e R s m args below meth c H locs cells slots Q (F0 m pc ls rest) := by
  cases o with
  | none => exact lv_aloadN hexec hb hdg hl kk
  | some q => exact lv_aload hexec hb hdg hl kk
theorem lv_aload_nO (hexec : p.tables.exec = Jvm.exec) (hb : c.code = cc) {k : Fin 4} {i : Nat} {o : Option Nat} (hdg : decode cc pc = .ok (.aload_n k, 1)) (hi : (k : Nat) = i) (hl : ls[i]? = some (.val (va_rf o))) (kk : W p l e R s m args below meth c H locs cells slots Q (F0 m (pc + 1) ls (va_rf o :: rest))) : W p l e R s m args below meth c H locs cells slots Q (F0 m pc ls rest) := by
  cases o with
  | none => exact lv_aload_nN hexec hb hdg hi hl kk
  | some q => exact lv_aload_n hexec hb hdg hi hl kk
theorem lv_astoreO (hexec : p.tables.exec = Jvm.exec) (hb : c.code = cc) {i nL : Nat} {o : Option Nat} {lv lv' : List (Nat × Value)} (hdg : decode cc pc = .ok (.astore i, 2)) (h : lv_has ls nL lv) (hn : i < nL) (hl : (i, va_rf o) :: lv.filter (fun q => !(q.1 == i) && !(q.1 + 1 == i && q.2.category == 2)) = lv') (kk : ∀ ls' : Array Slot, lv_has ls' nL lv' → W p l e R s m args below meth c H locs cells slots Q (F0 m (pc + 2) ls' rest)) : W p l e R s m args below meth c H locs cells slots Q (F0 m pc ls (va_rf o :: rest)) := by
  cases o with
  | none => exact lv_astoreN hexec hb hdg h hn hl kk
  | some q => exact lv_astore hexec hb hdg h hn hl kk
theorem lv_astore_nO (hexec : p.tables.exec = Jvm.exec) (hb : c.code = cc) {k : Fin 4} {i nL : Nat} {o : Option Nat} {lv lv' : List (Nat × Value)} (hdg : decode cc pc = .ok (.astore_n k, 1)) (hi : (k : Nat) = i) (h : lv_has ls nL lv) (hn : i < nL) (hl : (i, va_rf o) :: lv.filter (fun q => !(q.1 == i) && !(q.1 + 1 == i && q.2.category == 2)) = lv') (kk : ∀ ls' : Array Slot, lv_has ls' nL lv' → W p l e R s m args below meth c H locs cells slots Q (F0 m (pc + 1) ls' rest)) : W p l e R s m args below meth c H locs cells slots Q (F0 m pc ls (va_rf o :: rest)) := by
  cases o with
  | none => exact lv_astore_nN hexec hb hdg hi h hn hl kk
  | some q => exact lv_astore_n hexec hb hdg hi h hn hl kk
/-- static rows -/
theorem st_get (C : hC p s m args meth c cc nL own D G b0) (h : hw D b0 s.heap f H locs) {i index : Nat} (hi : i < 6) (hl : Cond.fieldLink own index "QuarterWalks" (st_names.getD i "") "[I" ∈ wAll) (hdg : decode cc pc = .ok (.getstatic index, 3)) (kk : W p l e R s m args below meth c H locs cells slots Q (F0 m (pc + 3) ls (.ref (G (60 + i)) :: rest))) : W p l e R s m args below meth c H locs cells slots Q (F0 m pc ls rest) :=
  va_gets C.1 C.2.1 (C.2.2.2.2.2.1.2.2.2.2.2.2.2.2.2.2.2.2.2.2.1 i hi).1 h.2.2.1 C.2.2.2.1 (C.2.2.2.2.1 _ hl) (fun _ h9 => h9) hdg kk
theorem st_getN (C : hC p s m args meth c cc nL own D G b0) (h : hw D b0 s.heap f H locs) {i index : Nat} (hi : i < 6) (hl : (own, index, "QuarterWalks", st_names.getD i "", "[I", "QuarterWalks") ∈ nest_f) (hdg : decode cc pc = .ok (.getstatic index, 3)) (kk : W p l e R s m args below meth c H locs cells slots Q (F0 m (pc + 3) ls (.ref (G (60 + i)) :: rest))) : W p l e R s m args below meth c H locs cells slots Q (F0 m pc ls rest) :=
  va_getsN C.1 C.2.1 (C.2.2.2.2.2.1.2.2.2.2.2.2.2.2.2.2.2.2.2.2.1 i hi).1 h.2.2.1 C.2.2.2.1 (va_Nw.use rfl (C.2.2.2.2.2.1.2.2.2.1 _ hl)) (fun _ h9 => h9) hdg kk
theorem st_ald (C : hC p s m args meth c cc nL own D G b0) (h : hw D b0 s.heap f H locs) {k : Nat} (hi : k < 6) {lo hi9 : Int} (hr : ∀ j, j < 8 → iv (st_at k j) lo hi9) {i : Int32} (hin : vp_in i 8) (hdg : decode cc pc = .ok (.iaload, 1)) (kk : ∀ z : Int32, z = st_at k i.toNatClampNeg → iv z lo hi9 → W p l e R s m args below meth c H locs cells slots Q (F0 m (pc + 1) ls (.int z :: rest))) : W p l e R s m args below meth c H locs cells slots Q (F0 m pc ls (.int i :: .ref (G (60 + k)) :: rest)) :=
  va_ti C.1 C.2.1 (C.2.2.2.2.2.1.2.2.2.2.2.2.2.2.2.2.2.2.2.2.1 k hi).2 h.2.2.1 hin rfl hdg (kk _ rfl (hr _ (Nat.not_le.mp fun q => hin (Or.inr q))))
theorem st_len (C : hC p s m args meth c cc nL own D G b0) (h : hw D b0 s.heap f H locs) {k : Nat} (hi : k < 6) (hdg : decode cc pc = .ok (.arraylength, 1)) (kk : W p l e R s m args below meth c H locs cells slots Q (F0 m (pc + 1) ls (.int 8 :: rest))) : W p l e R s m args below meth c H locs cells slots Q (F0 m pc ls (.ref (G (60 + k)) :: rest)) :=
  va_tlen C.1 C.2.1 (C.2.2.2.2.2.1.2.2.2.2.2.2.2.2.2.2.2.2.2.2.1 k hi).2 h.2.2.1 rfl hdg kk
theorem i_incA (hexec : p.tables.exec = Jvm.exec) (hb : c.code = cc) {i nL k : Nat} {n : Int} {x : Int32} {lv : List (Nat × Value)} {lv' : Int32 → List (Nat × Value)} (hdg : decode cc pc = .ok (.iinc i n, 3)) (h : lv_has ls nL lv) (hk : lv[k]? = some (i, .int x)) (hn : i < nL) (hl : ∀ v, (i, Value.int v) :: lv.filter (fun q => !(q.1 == i) && !(q.1 + 1 == i && q.2.category == 2)) = lv' v)
    (kk : ∀ (z : Int32) (ls' : Array Slot), z = x + Int32.ofInt n → iv z (-2147483648) 2147483647 → lv_has ls' nL (lv' z) → W p l e R s m args below meth c H locs cells slots Q (F0 m (pc + 3) ls' rest)) : W p l e R s m args below meth c H locs cells slots Q (F0 m pc ls rest) :=
  lv_iinc hexec hb hdg h hk rfl hn (hl _) (fun ls' h2 => kk _ ls' rfl (iv_any _) h2)
theorem t_lead (C : hC p s m args meth c cc nL own D G b0) (h : hw D b0 H0 f H locs) (t : TI G β τ f) (ha : τ a = 75) {k : Int} (hp : atp f a (lpre G k)) {i : Int32} (hin : vp_in i 28) (hi : i.toInt < k) (hdg : decode cc pc = .ok (.iaload, 1)) (kk : ∀ x : Int32, iv x 0 60 → W p l e R s m args below meth c H locs cells slots Q (F0 m (pc + 1) ls (.int x :: rest))) : W p l e R s m args below meth c H locs cells slots Q (F0 m pc ls (.int i :: .ref a :: rest)) := by
  obtain ⟨x, h1, h2⟩ := t.at ha (by decide)
  obtain ⟨r, rfl, h3⟩ := wf_75 _ h2
  obtain ⟨e, q1, r2, rfl, q2⟩ := hp
  rw [h1] at q1; cases q1
  have hz := vp_in_iff.mp hin
  have hj := q2 i.toNatClampNeg (by show ((i.toInt.toNat : Nat) : Int) < k; omega)
  have h4 := h3 i.toNatClampNeg
  exact q_iald C h h1 hin hdg (kk _ ⟨hj, h4.2⟩)
theorem t_leadc (C : hC p s m args meth c cc nL own D G b0) (h : hw D b0 H0 f H locs) (t : TI G β τ f) (ha : τ a = 75) {i : Int32} (hp : atp f a (lpre G i.toInt)) (hin : vp_in i 28) (hdg : decode cc pc = .ok (.iaload, 1)) (kk : ∀ x : Int32, iv x (-1) 60 → (0 ≤ x.toInt → atp f a (lpre G (i.toInt + 1))) → W p l e R s m args below meth c H locs cells slots Q (F0 m (pc + 1) ls (.int x :: rest))) : W p l e R s m args below meth c H locs cells slots Q (F0 m pc ls (.int i :: .ref a :: rest)) := by
  obtain ⟨x, h1, h2⟩ := t.at ha (by decide)
  obtain ⟨r, rfl, h3⟩ := wf_75 _ h2
  obtain ⟨e, q1, r2, rfl, q2⟩ := hp
  rw [h1] at q1; cases q1
  have hz := vp_in_iff.mp hin
  have e9 : ((i.toNatClampNeg : Nat) : Int) = i.toInt := by show ((i.toInt.toNat : Nat) : Int) = _; omega
  refine q_iald C h h1 hin hdg (kk _ (h3 _) (fun hx => ⟨_, h1, r, rfl, fun j hj => ?_⟩))
  by_cases hc : (j : Int) < i.toInt
  · exact q2 j hc
  · have : j = i.toNatClampNeg := by omega
    rw [this]; exact hx
theorem t_leadw (C : hC p s m args meth c cc nL own D G b0) (h : hw D b0 H0 f H locs) (t : TI G β τ f) (o : Fr S τ f0 f) (ha : τ a = 75) (hS : 75 ∈ S) {i x : Int32} (hp : atp f a (lpre G i.toInt)) (hin : vp_in i 28) (hx : iv x (-1) 60) (hdg : decode cc pc = .ok (.iastore, 1)) (kk : ∀ (f1 : hM) (H1 : Heap) (locs1 : List Loc), hw D b0 H0 f1 H1 locs1 → TI G β τ f1 → Fr S τ f0 f1 → (∀ q, τ q ≠ 75 → f1 q = f q) → atp f1 a (lpre G i.toInt) → W p l e R s m args below meth c H1 locs1 cells slots Q (F0 m (pc + 1) ls rest)) : W p l e R s m args below meth c H locs cells slots Q (F0 m pc ls (.int x :: .int i :: .ref a :: rest)) := by
  obtain ⟨y, h1, h2⟩ := t.at ha (by decide)
  obtain ⟨r, rfl, h3⟩ := wf_75 _ h2
  obtain ⟨e, q1, r2, rfl, q2⟩ := hp
  rw [h1] at q1; cases q1
  have hz := vp_in_iff.mp hin
  have e9 : ((i.toNatClampNeg : Nat) : Int) = i.toInt := by show ((i.toInt.toNat : Nat) : Int) = _; omega
  refine q_iast C h h1 hin hdg (fun H1 locs1 h9 => kk _ H1 locs1 h9 (t.up ha (fw_75 _ ⟨_, rfl, fun j => ?_⟩)) (o.upA ha hS h1) (hu_tg ha _) ⟨_, hu_self _ _ _, _, rfl, fun j hj => ?_⟩)
  · unfold upd
    split
    · exact hx
    · exact h3 j
  · unfold upd
    rw [if_neg (by omega)]; exact q2 j hj
end URows
/-! ===== the model's two grids are apart ===== -/
def NGs (τ : Nat → Nat) (f : hM) (u : Nat) : Prop := ∃ ga gb : Nat, ga ≠ gb ∧ (τ ga = 67 ∧ τ gb = 67) ∧ atp f u (fd 12 (.ref ga)) ∧ atp f u (fd 13 (.ref gb))
theorem NGs.tg {τ : Nat → Nat} {f g : hM} {u tg : Nat} (h : NGs τ f u) (hq : ∀ q, τ q ≠ tg → g q = f q) (hu : τ u = 60) (n : 60 ≠ tg) : NGs τ g u := by
  obtain ⟨ga, gb, h1, h2, h3, h4⟩ := h
  exact ⟨ga, gb, h1, h2, h3.tg hq hu n, h4.tg hq hu n⟩
theorem NGs.pk {τ : Nat → Nat} {f g : hM} {u k : Nat} (h : NGs τ f u) (hk : ∀ j w, j ≠ k → atp f u (fd j w) → atp g u (fd j w)) (n1 : 12 ≠ k) (n2 : 13 ≠ k) : NGs τ g u := by
  obtain ⟨ga, gb, h1, h2, h3, h4⟩ := h
  exact ⟨ga, gb, h1, h2, hk 12 _ n1 h3, hk 13 _ n2 h4⟩
theorem NGs.fr {τ : Nat → Nat} {f g : hM} {u : Nat} {S : List Nat} (h : NGs τ f u) (o : Fr S τ f g) (hu : τ u = 60) (n : 60013 ∉ S ∧ 60014 ∉ S) : NGs τ g u := by
  obtain ⟨ga, gb, h1, h2, h3, h4⟩ := h
  exact ⟨ga, gb, h1, h2, h3.fk o hu (by decide) n.1, h4.fk o hu (by decide) n.2⟩
theorem NGs.ex {τ τ1 : Nat → Nat} {f : hM} {u : Nat} (h : NGs τ f u) (x : Ex τ τ1) : NGs τ1 f u := by
  obtain ⟨ga, gb, h1, h2, h3, h4⟩ := h
  exact ⟨ga, gb, h1, ⟨x.at h2.1 (by decide), x.at h2.2 (by decide)⟩, h3, h4⟩
