/-! ===== eighth layer: rows known exactly ===== -/
theorem upd_at {r : Nat → Int32} {k i : Nat} {x : Int32} (h : k = i) : upd r i x k = x := by unfold upd; rw [if_pos h]
theorem upd_off {r : Nat → Int32} {k i : Nat} {x : Int32} (h : ¬ k = i) : upd r i x k = r k := by unfold upd; rw [if_neg h]
theorem bk_or {i x : Int32} {β : Int} (hi : iv i 0 80) (h : 8 ≤ β) (hx : iv x 0 β ∧ (i.toInt = 80 → x.toInt ≤ 8)) : (iv i 0 79 ∧ iv x 0 β) ∨ (i.toInt.toNat = 80 ∧ iv x 0 8) := by
  by_cases q : i.toInt = 80
  · exact Or.inr ⟨by omega, by have := hx.2 q; omega⟩
  · exact Or.inl ⟨by omega, hx.1⟩
theorem eqi {a b : Int32} (h : a.toInt = b.toInt) : a = b := Int32.toInt_inj.mp h
section ERows
variable {p : Program} {l : Launch} {e : Env} {R : Room} {s : State} {m : MethodId} {args : Array Value} {below : List Frame} {meth : Method} {c : Code} {H : Heap} {locs : List Loc} {cells slots : Nat} {Q : State → Prop}
variable {cc : ByteArray} {nL pc : Nat} {ls : Array Slot} {rest : List Value} {D : va_G} {G : Nat → Nat} {b0 a : Nat} {f f0 : hM} {own : String} {H0 : Heap} {τ : Nat → Nat} {β : Int} {tg : Nat} {S : List Nat}
theorem e_iald (C : hC p s m args meth c cc nL own D G b0) (h : hw D b0 H0 f H locs) (t : TI G β τ f) {n : Nat} {lo hi : Int} (ha : τ a = tg) (h0 : tg ≠ 0) (hT : ∀ e, wf G β τ tg e → isIA G n lo hi e) {r : Nat → Int32} (hr : atp f a (eqc (.inl (G 1, n, .inl r)))) {i : Int32} (hin : vp_in i n) (hdg : decode cc pc = .ok (.iaload, 1)) (kk : ∀ x : Int32, x = r i.toInt.toNat → iv x lo hi → W p l e R s m args below meth c H locs cells slots Q (F0 m (pc + 1) ls (.int x :: rest))) : W p l e R s m args below meth c H locs cells slots Q (F0 m pc ls (.int i :: .ref a :: rest)) := by
  obtain ⟨x, h1, h2⟩ := t.at ha h0
  obtain ⟨r2, rfl, h3⟩ := hT _ h2
  obtain ⟨e, q1, q2⟩ := hr
  rw [h1] at q1; cases q1
  cases q2
  exact q_iald C h h1 hin hdg (kk _ rfl (h3 _))
theorem e_bald (C : hC p s m args meth c cc nL own D G b0) (h : hw D b0 H0 f H locs) (t : TI G β τ f) {n : Nat} (ha : τ a = tg) (h0 : tg ≠ 0) (hT : ∀ e, wf G β τ tg e → isBA G n e) {r : Nat → Int32} (hr : atp f a (eqc (.inl (G 0, n, .inl r)))) {i : Int32} (hin : vp_in i n) (hdg : decode cc pc = .ok (.baload, 1)) (kk : ∀ x : Int32, x = r i.toInt.toNat → iv x (-128) 127 → W p l e R s m args below meth c H locs cells slots Q (F0 m (pc + 1) ls (.int x :: rest))) : W p l e R s m args below meth c H locs cells slots Q (F0 m pc ls (.int i :: .ref a :: rest)) := by
  obtain ⟨x, h1, h2⟩ := t.at ha h0
  obtain ⟨r2, rfl, h3⟩ := hT _ h2
  obtain ⟨e, q1, q2⟩ := hr
  rw [h1] at q1; cases q1
  cases q2
  exact q_bald C h h1 hin hdg (kk _ rfl (h3 _))
theorem e_bk80 (C : hC p s m args meth c cc nL own D G b0) (h : hw D b0 H0 f H locs) (t : TI G β τ f) (ha : τ a = tg) (h0 : tg ≠ 0) (hT : ∀ e, wf G β τ tg e → isBK G β e) {r : Nat → Int32} (hr : atp f a (eqc (.inl (G 1, 81, .inl r)))) (hdg : decode cc pc = .ok (.iaload, 1)) (kk : ∀ x : Int32, x = r 80 → iv x 0 8 → W p l e R s m args below meth c H locs cells slots Q (F0 m (pc + 1) ls (.int x :: rest))) : W p l e R s m args below meth c H locs cells slots Q (F0 m pc ls (.int 80 :: .ref a :: rest)) := by
  obtain ⟨x, h1, h2⟩ := t.at ha h0
  obtain ⟨r2, rfl, h3, h4⟩ := hT _ h2
  obtain ⟨e, q1, q2⟩ := hr
  rw [h1] at q1; cases q1
  cases q2
  exact q_iald C h h1 (by unfold vp_in; decide) hdg (kk _ rfl h4)
theorem e_bkld (C : hC p s m args meth c cc nL own D G b0) (h : hw D b0 H0 f H locs) (t : TI G β τ f) (ha : τ a = tg) (h0 : tg ≠ 0) (hT : ∀ e, wf G β τ tg e → isBK G β e) {r : Nat → Int32} (hr : atp f a (eqc (.inl (G 1, 81, .inl r)))) {i : Int32} {l1 h1 : Int} (ii : iv i l1 h1) (hin : 0 ≤ l1 ∧ h1 < 80) (hdg : decode cc pc = .ok (.iaload, 1)) (kk : ∀ x : Int32, x = r i.toInt.toNat → iv x 0 β → W p l e R s m args below meth c H locs cells slots Q (F0 m (pc + 1) ls (.int x :: rest))) : W p l e R s m args below meth c H locs cells slots Q (F0 m pc ls (.int i :: .ref a :: rest)) := by
  obtain ⟨x, h1, h2⟩ := t.at ha h0
  obtain ⟨r2, rfl, h3, h4⟩ := hT _ h2
  obtain ⟨e, q1, q2⟩ := hr
  rw [h1] at q1; cases q1
  cases q2
  exact q_iald C h h1 (iv_in ii (by omega)) hdg (kk _ rfl (h3 _ (iv_cl ii (by omega))))
theorem e_bkA (C : hC p s m args meth c cc nL own D G b0) (h : hw D b0 H0 f H locs) (t : TI G β τ f) (ha : τ a = tg) (h0 : tg ≠ 0) (hT : ∀ e, wf G β τ tg e → isBK G β e) {r : Nat → Int32} (hr : atp f a (eqc (.inl (G 1, 81, .inl r)))) {i : Int32} {l1 h1 hi : Int} (ii : iv i l1 h1) (hin : 0 ≤ l1 ∧ h1 ≤ 80) (hh : β ≤ hi ∧ 8 ≤ hi) (hdg : decode cc pc = .ok (.iaload, 1)) (kk : ∀ x : Int32, x = r i.toInt.toNat → iv x 0 hi → W p l e R s m args below meth c H locs cells slots Q (F0 m (pc + 1) ls (.int x :: rest))) : W p l e R s m args below meth c H locs cells slots Q (F0 m pc ls (.int i :: .ref a :: rest)) := by
  obtain ⟨x, h1, h2⟩ := t.at ha h0
  obtain ⟨r2, rfl, h3, h4⟩ := hT _ h2
  obtain ⟨e, q1, q2⟩ := hr
  rw [h1] at q1; cases q1
  cases q2
  refine q_iald C h h1 (iv_in ii (by omega)) hdg (kk _ rfl ?_)
  by_cases q : i.toInt.toNat < 80
  · exact iv_w (h3 _ q) (by omega)
  · rw [show i.toNatClampNeg = 80 from (by show i.toInt.toNat = 80; omega)]; exact iv_w h4 (by omega)
theorem e_iast (C : hC p s m args meth c cc nL own D G b0) (h : hw D b0 H0 f H locs) (t : TI G β τ f) (o : Fr S τ f0 f) {n : Nat} {lo hi : Int} (ha : τ a = tg) (h0 : tg ≠ 0) (hS : tg ∈ S) (hT : ∀ e, wf G β τ tg e → isIA G n lo hi e) (hT2 : ∀ e, isIA G n lo hi e → wf G β τ tg e) {r : Nat → Int32} (hr : atp f a (eqc (.inl (G 1, n, .inl r)))) {i x : Int32} (hin : vp_in i n) (hx : iv x lo hi) (hdg : decode cc pc = .ok (.iastore, 1)) (kk : ∀ (r1 : Nat → Int32) (f1 : hM), r1 = upd r i.toInt.toNat x → ∀ (H1 : Heap) (locs1 : List Loc), hw D b0 H0 f1 H1 locs1 → TI G β τ f1 → Fr S τ f0 f1 → (∀ q, τ q ≠ tg → f1 q = f q) → (∀ q, q ≠ a → f1 q = f q) → atp f1 a (eqc (.inl (G 1, n, .inl r1))) → W p l e R s m args below meth c H1 locs1 cells slots Q (F0 m (pc + 1) ls rest)) : W p l e R s m args below meth c H locs cells slots Q (F0 m pc ls (.int x :: .int i :: .ref a :: rest)) := by
  obtain ⟨y, h1, h2⟩ := t.at ha h0
  obtain ⟨r2, rfl, h3⟩ := hT _ h2
  obtain ⟨e, q1, q2⟩ := hr
  rw [h1] at q1; cases q1
  cases q2
  refine q_iast C h h1 hin hdg (fun H1 locs1 h9 => kk _ _ rfl H1 locs1 h9 (t.up ha (hT2 _ ⟨_, rfl, fun j => ?_⟩)) (o.upA ha hS h1) (hu_tg ha _) (fun q hq => hu_ne hq) ⟨_, hu_self _ _ _, rfl⟩)
  unfold upd
  split
  · exact hx
  · exact h3 j
theorem e_bast (C : hC p s m args meth c cc nL own D G b0) (h : hw D b0 H0 f H locs) (t : TI G β τ f) (o : Fr S τ f0 f) {n : Nat} (ha : τ a = tg) (h0 : tg ≠ 0) (hS : tg ∈ S) (hT : ∀ e, wf G β τ tg e → isBA G n e) (hT2 : ∀ e, isBA G n e → wf G β τ tg e) {r : Nat → Int32} (hr : atp f a (eqc (.inl (G 0, n, .inl r)))) {i x : Int32} (hin : vp_in i n) (hdg : decode cc pc = .ok (.bastore, 1)) (kk : ∀ (r1 : Nat → Int32) (f1 : hM), r1 = upd r i.toInt.toNat x.toInt8.toInt32 → ∀ (H1 : Heap) (locs1 : List Loc), hw D b0 H0 f1 H1 locs1 → TI G β τ f1 → Fr S τ f0 f1 → (∀ q, τ q ≠ tg → f1 q = f q) → (∀ q, q ≠ a → f1 q = f q) → atp f1 a (eqc (.inl (G 0, n, .inl r1))) → W p l e R s m args below meth c H1 locs1 cells slots Q (F0 m (pc + 1) ls rest)) : W p l e R s m args below meth c H locs cells slots Q (F0 m pc ls (.int x :: .int i :: .ref a :: rest)) := by
  obtain ⟨y, h1, h2⟩ := t.at ha h0
  obtain ⟨r2, rfl, h3⟩ := hT _ h2
  obtain ⟨e, q1, q2⟩ := hr
  rw [h1] at q1; cases q1
  cases q2
  refine q_bast C h h1 hin hdg (fun H1 locs1 h9 => kk _ _ rfl H1 locs1 h9 (t.up ha (hT2 _ ⟨_, rfl, fun j => ?_⟩)) (o.upA ha hS h1) (hu_tg ha _) (fun q hq => hu_ne hq) ⟨_, hu_self _ _ _, rfl⟩)
  unfold upd
  split
  · exact iv_i2b x
  · exact h3 j
theorem e_bkst (C : hC p s m args meth c cc nL own D G b0) (h : hw D b0 H0 f H locs) (t : TI G β τ f) (o : Fr S τ f0 f) (ha : τ a = tg) (h0 : tg ≠ 0) (hS : tg ∈ S) (hT : ∀ e, wf G β τ tg e → isBK G β e) (hT2 : ∀ e, isBK G β e → wf G β τ tg e) {r : Nat → Int32} (hr : atp f a (eqc (.inl (G 1, 81, .inl r)))) {i x : Int32} (hv : (iv i 0 79 ∧ iv x 0 β) ∨ (i.toInt.toNat = 80 ∧ iv x 0 8)) (hdg : decode cc pc = .ok (.iastore, 1)) (kk : ∀ (r1 : Nat → Int32) (f1 : hM), r1 = upd r i.toInt.toNat x → ∀ (H1 : Heap) (locs1 : List Loc), hw D b0 H0 f1 H1 locs1 → TI G β τ f1 → Fr S τ f0 f1 → (∀ q, τ q ≠ tg → f1 q = f q) → (∀ q, q ≠ a → f1 q = f q) → atp f1 a (eqc (.inl (G 1, 81, .inl r1))) → W p l e R s m args below meth c H1 locs1 cells slots Q (F0 m (pc + 1) ls rest)) : W p l e R s m args below meth c H locs cells slots Q (F0 m pc ls (.int x :: .int i :: .ref a :: rest)) := by
  obtain ⟨y, h1, h2⟩ := t.at ha h0
  obtain ⟨r2, rfl, h3, h4⟩ := hT _ h2
  obtain ⟨e, q1, q2⟩ := hr
  rw [h1] at q1; cases q1
  cases q2
  have hi : 0 ≤ i.toInt ∧ i.toInt < ((81 : Nat) : Int) := by rcases hv with z | z <;> omega
  refine q_iast C h h1 (ix_o hi) hdg (fun H1 locs1 h9 => kk _ _ rfl H1 locs1 h9 (t.up ha (hT2 _ ⟨_, rfl, fun j hj => ?_, ?_⟩)) (o.upA ha hS h1) (hu_tg ha _) (fun q hq => hu_ne hq) ⟨_, hu_self _ _ _, rfl⟩)
  · unfold upd
    split
    · rename_i e9
      have e9 : j = i.toInt.toNat := e9
      rcases hv with z | z
      · exact z.2
      · omega
    · exact h3 j hj
  · unfold upd
    split
    · rename_i e9
      have e9 : 80 = i.toInt.toNat := e9
      rcases hv with z | z
      · omega
      · exact z.2
    · exact h4
end ERows
/-! ===== the model's acts, as numbers ===== -/
/-- the kept rows, once more -/
def kp (rk rb : Nat → Int32) (ac : Int) (k : Nat) : Int32 := if ac = 12 then (if k < 891 then rk (k + 81) else rb (k - 891)) else if 81 * ac ≤ (k : Int) ∧ (k : Int) < 81 * ac + 81 then rb (k - 81 * ac.toNat) else rk k
/-- a set comes -/
def cm (rb rd : Nat → Int32) (k : Nat) : Int32 := if k = 80 then rb 80 + 1 else if 10 * (rb 80).toInt ≤ (k : Int) ∧ (k : Int) < 10 * (rb 80).toInt + 10 then rd (k - 10 * (rb 80).toInt.toNat) else rb k
/-- a set goes -/
def dr (rb : Nat → Int32) (u : Int) (k : Nat) : Int32 := if k = 80 then rb 80 - 1 else if 10 * u ≤ (k : Int) ∧ k < 70 then rb (k + 10) else rb k
theorem toInt_addk {x y : Int32} {k : Int} (e : y.toInt = x.toInt + k) (hk : (Int32.ofInt k).toInt = k) (hr : -2147483648 ≤ x.toInt + k ∧ x.toInt + k ≤ 2147483647) : y = x + Int32.ofInt k := eqi (by rw [e, Int32.toInt_add, hk, iv_bm hr.1 hr.2])
theorem toInt_add1 {x y : Int32} (e : y.toInt = x.toInt + 1) : y = x + 1 := eqi (by
  have h1 := iv_rng y
  rw [e, Int32.toInt_add, show (1 : Int32).toInt = 1 from rfl, iv_bm (by have := iv_rng x; omega) (by omega)])
theorem toInt_sub1 {x y : Int32} (e : y.toInt = x.toInt - 1) : y = x - 1 := eqi (by
  have h1 := iv_rng y
  rw [e, Int32.toInt_sub, show (1 : Int32).toInt = 1 from rfl, iv_bm (by omega) (by have := iv_rng x; omega)])
theorem iv_remx {x y : Int32} {h k : Int} (hx : iv x 0 h) (hy : y.toInt = k) (hk : 0 < k) : ((x - x / y * y).toInt = x.toInt % k) ∧ iv (x - x / y * y) 0 (k - 1) := by
  have e : (x - x / y * y).toInt = x.toInt % k := by rw [rem_toInt, hy, Int.tmod_eq_emod_of_nonneg hx.1]
  have h1 := Int.emod_nonneg x.toInt (b := k) (by omega)
  have h2 := Int.emod_lt_of_pos x.toInt (b := k) hk
  exact ⟨e, by rw [iv, e]; omega⟩
/-- a set mirrored -/
def mi (rb : Nat → Int32) (u : Int) (j : Nat) : Int32 := if j < 8 then rb (10 * u + (10 - (j : Int)) % 8).toNat else if j = 8 then rb (10 * u + 9).toNat else rb (10 * u + 8).toNat
/-- a set turned round -/
def tr (rb : Nat → Int32) (u : Int) (j : Nat) : Int32 := if j < 8 then rb (10 * u + ((j : Int) + 4) % 8).toNat else rb (10 * u + j).toNat
/-- two sets joined -/
def jo (rb : Nat → Int32) (u v : Int) (j : Nat) : Int32 := if j < 8 then rb (10 * u + j).toNat + rb (10 * v + j).toNat else rb (10 * u + j).toNat
/-- how many steps -/
def cnt (rb : Nat → Int32) (u : Int) : Nat → Int
  | 0 => 0
  | n + 1 => cnt rb u n + (if 0 < (rb (10 * u + n).toNat).toInt then 1 else 0)
theorem cnt_s {rb : Nat → Int32} {u i z : Int} (h : 0 ≤ i) (hz : z = i + 1) : cnt rb u z.toNat = cnt rb u i.toNat + (if 0 < (rb (10 * u + i).toNat).toInt then 1 else 0) := by
  rw [show z.toNat = i.toNat + 1 by omega, cnt, show ((i.toNat : Nat) : Int) = i by omega]
/-- a set scaled -/
def sc (rb : Nat → Int32) (u : Int) (b : Int32) (k : Nat) : Int32 := if 10 * u ≤ (k : Int) ∧ (k : Int) < 10 * u + 8 then rb k * b else rb k
/-- a set that starts elsewhere -/
def so (rb : Nat → Int32) (u : Int) (x y : Int32) (k : Nat) : Int32 := if (k : Int) = 10 * u + 8 then x else if (k : Int) = 10 * u + 9 then y else rb k
/-- a weight changed -/
def we (rb : Nat → Int32) (u s : Int) (x : Int32) (k : Nat) : Int32 := if (k : Int) = 10 * u + s then x else rb k
theorem cme_eq {rb rd rd2 : Nat → Int32} (h : ∀ k : Nat, k < 10 → rd k = rd2 k) (h8 : 0 ≤ (rb 80).toInt) : ∀ k : Nat, k < 81 → cm rb rd k = cm rb rd2 k := fun k hk => by
  unfold cm
  split
  · rfl
  · split
    · exact h _ (by omega)
    · rfl
/-- what a set's weights come to -/
def wsm (rb : Nat → Int32) (u : Int) : Nat → Int
  | 0 => 0
  | n + 1 => wsm rb u n + (rb (10 * u + (n : Int)).toNat).toInt
theorem wsm_s {rb : Nat → Int32} {u i z : Int} (h : 0 ≤ i) (hz : z = i + 1) : wsm rb u z.toNat = wsm rb u i.toNat + (rb (10 * u + i).toNat).toInt := by
  subst hz
  rw [show (i + 1).toNat = i.toNat + 1 by omega, wsm, show ((i.toNat : Nat) : Int) = i by omega]
theorem wsm_c {v v2 : Nat → Int32} {u : Int} (hu : 0 ≤ u ∧ u ≤ 7) (h : ∀ k, k < 80 → v k = v2 k) : ∀ n : Nat, n ≤ 8 → wsm v u n = wsm v2 u n
  | 0, _ => rfl
  | n + 1, hn => by rw [wsm, wsm, wsm_c hu h n (by omega), h _ (by omega)]
/-- one more was refused -/
theorem bump_eq {r0 r1 : Nat → Int32} {u : Int32} {c W : Int} (h : ∀ k : Nat, r1 k = if k = u.toInt.toNat then r0 k + 1 else r0 k) (hu : u.toInt = c) (hc : 0 ≤ c) (hw : W = c) : ∀ k : Nat, k < 4 → r1 k = if (k : Int) = W then r0 k + 1 else r0 k := fun k _ => by
  rw [h k, hw]
  by_cases q : k = u.toInt.toNat
  · rw [if_pos q, if_pos (by omega)]
  · rw [if_neg q, if_neg (by omega)]
theorem bump_no {r0 : Nat → Int32} {W : Int} (hw : W = -1) : ∀ k : Nat, k < 4 → r0 k = if (k : Int) = W then r0 k + 1 else r0 k := fun k _ => by
  rw [hw, if_neg (by omega)]
theorem bump_tr {r0 r1 : Nat → Int32} {W W2 : Int} (h : ∀ k : Nat, k < 4 → r1 k = if (k : Int) = W2 then r0 k + 1 else r0 k) (hw : W = W2) : ∀ k : Nat, k < 4 → r1 k = if (k : Int) = W then r0 k + 1 else r0 k := by
  rw [hw]
  exact h
