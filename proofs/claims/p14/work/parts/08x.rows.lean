/-! ===== sixth layer: the model's book, written and restored ===== -/
def eqc (E e : va_E) : Prop := e = E
theorem eqc_some {f : hM} {a : Nat} {E : va_E} (h : atp f a (eqc E)) : f a = some E := by
  obtain ⟨e, h1, rfl⟩ := h
  exact h1
theorem wf_b {G : Nat → Nat} {β β1 : Int} {τ : Nat → Nat} {t : Nat} {e : va_E} (ht : t ≠ 63) (h : wf G β τ t e) : wf G β1 τ t e := by
  unfold wf at h
  split at h
  all_goals first | exact (ht rfl).elim | exact h.elim | exact h
theorem TI.up19 {G : Nat → Nat} {τ : Nat → Nat} {f : hM} (t : TI G 9 τ f) : TI G 19 τ f := fun q hq => by
  obtain ⟨e, h1, h2⟩ := t q hq
  refine ⟨e, h1, ?_⟩
  by_cases h : τ q = 63
  · rw [h] at h2 ⊢
    obtain ⟨r, rfl, h3, h4⟩ := wf_63 _ h2
    exact fw_63 _ ⟨r, rfl, fun j hj => iv_w (h3 j hj) (by decide), h4⟩
  · exact wf_b h h2
theorem TI.back {G : Nat → Nat} {τ : Nat → Nat} {f0 f : hM} (t0 : TI G 9 τ f0) (t : TI G 19 τ f) (hb : ∀ q, τ q = 63 → f q = f0 q) : TI G 9 τ f := fun q hq => by
  by_cases h : τ q = 63
  · rw [hb q h]; exact t0 q hq
  · obtain ⟨e, h1, h2⟩ := t q hq
    exact ⟨e, h1, wf_b h h2⟩
theorem Fr.wk {S : List Nat} {τ : Nat → Nat} {f g : hM} (o : Fr S τ f g) : Fr (63 :: S) τ f g := ⟨fun q hq => o.1 q (fun z => hq (List.mem_cons_of_mem _ z)), fun q k v h0 hk h => o.2 q k v h0 (fun z => hk (List.mem_cons_of_mem _ z)) h⟩
theorem Fr.drop {S : List Nat} {τ : Nat → Nat} {f g : hM} (o : Fr (63 :: S) τ f g) (hb : ∀ q, τ q = 63 → g q = f q) : Fr S τ f g := ⟨fun q hq => by
  by_cases h : τ q = 63
  · exact hb q h
  · exact o.1 q (fun z => (List.mem_cons.mp z).elim h hq), fun q k v h0 hk h => o.2 q k v h0 (fun z => (List.mem_cons.mp z).elim (fun z2 => by omega) hk) h⟩
theorem bk_row {G : Nat → Nat} {τ : Nat → Nat} {f : hM} (t : TI G 9 τ f) {a : Nat} (ha : τ a = 63) : ∃ r : Nat → Int32, atp f a (eqc (.inl (G 1, 81, .inl r))) := by
  obtain ⟨e, h1, h2⟩ := t.at ha (by decide)
  obtain ⟨r, rfl, -⟩ := wf_63 _ h2
  exact ⟨r, _, h1, rfl⟩
theorem upd_back {r : Nat → Int32} {i j i2 j2 : Nat} {x y kx ky : Int32} (hi : i2 = i) (hj : j2 = j) (hx : kx = r i) (hy : ky = r j) : upd (upd (upd (upd r i x) j y) i2 kx) j2 ky = r := by
  subst hi; subst hj
  funext q
  unfold upd
  by_cases h1 : q = j2
  · rw [if_pos h1, hy, h1]
  · rw [if_neg h1]
    by_cases h2 : q = i2
    · rw [if_pos h2, hx, h2]
    · rw [if_neg h2, if_neg h1, if_neg h2]
theorem cl_eq {i j : Int32} (h : i.toInt = j.toInt) : i.toNatClampNeg = j.toNatClampNeg := congrArg Int.toNat h
/-- two cells the same -/
theorem eqc_same {f g : hM} {a : Nat} {E : va_E} (h1 : atp f a (eqc E)) (h2 : atp g a (eqc E)) : g a = f a := by
  obtain ⟨e, q1, rfl⟩ := h1
  obtain ⟨e2, q2, rfl⟩ := h2
  rw [q1, q2]
section YRows
variable {p : Program} {l : Launch} {e : Env} {R : Room} {s : State} {m : MethodId} {args : Array Value} {below : List Frame} {meth : Method} {c : Code} {H : Heap} {locs : List Loc} {cells slots : Nat} {Q : State → Prop}
variable {cc : ByteArray} {nL pc : Nat} {ls : Array Slot} {rest : List Value} {D : va_G} {G : Nat → Nat} {b0 a : Nat} {f f0 : hM} {own : String} {H0 : Heap} {τ : Nat → Nat} {β : Int} {tg : Nat} {S : List Nat}
theorem t_bkr (C : hC p s m args meth c cc nL own D G b0) (h : hw D b0 H0 f H locs) (t : TI G β τ f) (ha : τ a = 63) {r : Nat → Int32} (hr : atp f a (eqc (.inl (G 1, 81, .inl r)))) {i : Int32} {l1 h1 : Int} (ii : iv i l1 h1) (hin : 0 ≤ l1 ∧ h1 < 80) (hdg : decode cc pc = .ok (.iaload, 1)) (kk : ∀ x : Int32, x = r i.toNatClampNeg → iv x 0 β → W p l e R s m args below meth c H locs cells slots Q (F0 m (pc + 1) ls (.int x :: rest))) : W p l e R s m args below meth c H locs cells slots Q (F0 m pc ls (.int i :: .ref a :: rest)) := by
  obtain ⟨x, h1, h2⟩ := t.at ha (by decide)
  obtain ⟨r2, rfl, h3, h4⟩ := wf_63 _ h2
  obtain ⟨e, q1, q2⟩ := hr
  rw [h1] at q1; cases q1
  cases q2
  exact q_iald C h h1 (iv_in ii (by omega)) hdg (kk _ rfl (h3 _ (iv_cl ii (by omega))))
theorem t_bkw (C : hC p s m args meth c cc nL own D G b0) (h : hw D b0 H0 f H locs) (t : TI G 19 τ f) (o : Fr S τ f0 f) (ha : τ a = 63) (hS : 63 ∈ S) {r : Nat → Int32} (hr : atp f a (eqc (.inl (G 1, 81, .inl r)))) {i x : Int32} {l1 h1 : Int} (ii : iv i l1 h1) (hin : 0 ≤ l1 ∧ h1 < 80) (hx : iv x 0 19) (hdg : decode cc pc = .ok (.iastore, 1)) (kk : ∀ (f1 : hM) (H1 : Heap) (locs1 : List Loc), hw D b0 H0 f1 H1 locs1 → TI G 19 τ f1 → Fr S τ f0 f1 → (∀ q, τ q ≠ 63 → f1 q = f q) → (∀ q, q ≠ a → f1 q = f q) → atp f1 a (eqc (.inl (G 1, 81, .inl (upd r i.toNatClampNeg x)))) → W p l e R s m args below meth c H1 locs1 cells slots Q (F0 m (pc + 1) ls rest)) : W p l e R s m args below meth c H locs cells slots Q (F0 m pc ls (.int x :: .int i :: .ref a :: rest)) := by
  obtain ⟨y, h1, h2⟩ := t.at ha (by decide)
  obtain ⟨r2, rfl, h3, h4⟩ := wf_63 _ h2
  obtain ⟨e, q1, q2⟩ := hr
  rw [h1] at q1; cases q1
  cases q2
  have hn : i.toNatClampNeg < 80 := iv_cl ii (by omega)
  refine q_iast C h h1 (iv_in ii (by omega)) hdg (fun H1 locs1 h9 => kk _ H1 locs1 h9 (t.up ha (fw_63 _ ⟨_, rfl, fun j hj => ?_, ?_⟩)) (o.upA ha hS h1) (hu_tg ha _) (fun q hq => hu_ne hq) ⟨_, hu_self _ _ _, rfl⟩)
  · unfold upd
    split
    · exact hx
    · exact h3 j hj
  · unfold upd
    rw [if_neg (by omega)]; exact h4
end YRows
/-! ===== fifth layer: cells that are made ===== -/
theorem atp.new {f : hM} {a q : Nat} {e : va_E} {P : va_E → Prop} (h : atp f a P) (hq : f q = none) : atp (hu f q e) a P := by
  obtain ⟨x, h1, h2⟩ := h
  exact ⟨x, by rw [hu_ne (fun z => by rw [z, hq] at h1; cases h1)]; exact h1, h2⟩
theorem GJ.new {τ : Nat → Nat} {f : hM} {a rq mq q : Nat} {e : va_E} (h : GJ τ f a rq mq) (hq : f q = none) : GJ τ (hu f q e) a rq mq := by
  obtain ⟨sx, sy, rl, rb, rr, rt, ml, mb, mr, mt, ⟨q1, q2⟩, ⟨a1, a2, a3, a4⟩, ⟨b1, b2, b3, b4⟩, ⟨c1, c2, c3, c4⟩, h5, h6, h7, hz⟩ := h
  exact ⟨sx, sy, rl, rb, rr, rt, ml, mb, mr, mt, ⟨q1, q2⟩, ⟨a1.new hq, a2.new hq, a3.new hq, a4.new hq⟩, ⟨b1.new hq, b2.new hq, b3.new hq, b4.new hq⟩, ⟨c1.new hq, c2.new hq, c3.new hq, c4.new hq⟩, h5, h6, h7, hz.new hq⟩
theorem GJ.ex {τ τ1 : Nat → Nat} {f : hM} {a rq mq : Nat} (h : GJ τ f a rq mq) (x : Ex τ τ1) : GJ τ1 f a rq mq := by
  obtain ⟨sx, sy, rl, rb, rr, rt, ml, mb, mr, mt, ⟨q1, q2⟩, h3, h4, h5, h6, h7, h8, hz⟩ := h
  exact ⟨sx, sy, rl, rb, rr, rt, ml, mb, mr, mt, ⟨x.at q1 (by decide), x.at q2 (by decide)⟩, h3, h4, h5, h6, h7, h8, hz.ex x⟩
/-- a reference or null in a field -/
theorem t_fopt {G : Nat → Nat} {β : Int} {τ : Nat → Nat} {f : hM} (t : TI G β τ f) {a tg tq ci k : Nat} {tys : List (Nat × Int × Int)} {hi : Int} (ha : τ a = tg) (h0 : tg ≠ 0) (hT : ∀ e, wf G β τ tg e → wo τ ci tys e) (hk : tys[k]? = some (3, (tq : Int), hi)) : ∃ o : Option Nat, (∀ z, o = some z → τ z = tq) ∧ atp f a (fd k (va_rf o)) := by
  obtain ⟨x, h1, h2⟩ := t.at ha h0
  obtain ⟨fs, rfl, -, h3⟩ := hT _ h2
  obtain ⟨v, e1, q, rfl, e2⟩ := h3 k _ hk
  exact ⟨q, fun z hz => (e2 z hz).trans (Int.toNat_natCast tq), _, h1, _, _, rfl, e1⟩
theorem va_rfcat (o : Option Nat) : (va_rf o).category = 1 := by cases o <;> rfl
/-! ===== eighth layer: rows known exactly ===== -/
theorem upd_at {r : Nat → Int32} {k i : Nat} {x : Int32} (h : k = i) : upd r i x k = x := by unfold upd; rw [if_pos h]
theorem upd_off {r : Nat → Int32} {k i : Nat} {x : Int32} (h : ¬ k = i) : upd r i x k = r k := by unfold upd; rw [if_neg h]
theorem bk_or {i x : Int32} {β : Int} (hi : iv i 0 80) (h : 8 ≤ β) (hx : iv x 0 β ∧ (i.toInt = 80 → x.toInt ≤ 8)) : (iv i 0 79 ∧ iv x 0 β) ∨ (i.toInt.toNat = 80 ∧ iv x 0 8) := by
  by_cases q : i.toInt = 80
  · exact Or.inr ⟨by omega, by have := hx.2 q; omega⟩
  · exact Or.inl ⟨by omega, hx.1⟩
theorem eqi {a b : Int32} (h : a.toInt = b.toInt) : a = b := Int32.toInt_inj.mp h
section ERows
variable {p : Program} {l : Launch} {e : Env} {R : Room} {s : State} {m : MethodId} {args : Array Value} {below : List Frame} {meth : Method} {c : Code} {H : Heap} {locs : List Loc} {cells slots : Nat} {Q : State → Prop}
variable {cc : ByteArray} {nL pc : Nat} {ls : Array Slot} {rest : List Value} {D : va_G} {G : Nat → Nat} {b0 a : Nat} {f f0 : hM} {own : String} {H0 : Heap} {τ : Nat → Nat} {β : Int} {tg : Nat} {S : List Nat}
theorem e_iald (C : hC p s m args meth c cc nL own D G b0) (h : hw D b0 H0 f H locs) (t : TI G β τ f) {n : Nat} {lo hi : Int} (ha : τ a = tg) (h0 : tg ≠ 0) (hT : ∀ e, wf G β τ tg e → isIA G n lo hi e) {r : Nat → Int32} (hr : atp f a (eqc (.inl (G 1, n, .inl r)))) {i : Int32} (hin : vp_in i n) (hdg : decode cc pc = .ok (.iaload, 1)) (kk : ∀ x : Int32, x = r i.toInt.toNat → iv x lo hi → W p l e R s m args below meth c H locs cells slots Q (F0 m (pc + 1) ls (.int x :: rest))) : W p l e R s m args below meth c H locs cells slots Q (F0 m pc ls (.int i :: .ref a :: rest)) := by
  obtain ⟨x, h1, h2⟩ := t.at ha h0
  obtain ⟨r2, rfl, h3⟩ := hT _ h2
  obtain ⟨e, q1, q2⟩ := hr
  rw [h1] at q1; cases q1
  cases q2
  exact q_iald C h h1 hin hdg (kk _ rfl (h3 _))
theorem e_bald (C : hC p s m args meth c cc nL own D G b0) (h : hw D b0 H0 f H locs) (t : TI G β τ f) {n : Nat} (ha : τ a = tg) (h0 : tg ≠ 0) (hT : ∀ e, wf G β τ tg e → isBA G n e) {r : Nat → Int32} (hr : atp f a (eqc (.inl (G 0, n, .inl r)))) {i : Int32} (hin : vp_in i n) (hdg : decode cc pc = .ok (.baload, 1)) (kk : ∀ x : Int32, x = r i.toInt.toNat → iv x (-128) 127 → W p l e R s m args below meth c H locs cells slots Q (F0 m (pc + 1) ls (.int x :: rest))) : W p l e R s m args below meth c H locs cells slots Q (F0 m pc ls (.int i :: .ref a :: rest)) := by
  obtain ⟨x, h1, h2⟩ := t.at ha h0
  obtain ⟨r2, rfl, h3⟩ := hT _ h2
  obtain ⟨e, q1, q2⟩ := hr
  rw [h1] at q1; cases q1
  cases q2
  exact q_bald C h h1 hin hdg (kk _ rfl (h3 _))
theorem e_bk80 (C : hC p s m args meth c cc nL own D G b0) (h : hw D b0 H0 f H locs) (t : TI G β τ f) (ha : τ a = tg) (h0 : tg ≠ 0) (hT : ∀ e, wf G β τ tg e → isBK G β e) {r : Nat → Int32} (hr : atp f a (eqc (.inl (G 1, 81, .inl r)))) (hdg : decode cc pc = .ok (.iaload, 1)) (kk : ∀ x : Int32, x = r 80 → iv x 0 8 → W p l e R s m args below meth c H locs cells slots Q (F0 m (pc + 1) ls (.int x :: rest))) : W p l e R s m args below meth c H locs cells slots Q (F0 m pc ls (.int 80 :: .ref a :: rest)) := by
  obtain ⟨x, h1, h2⟩ := t.at ha h0
  obtain ⟨r2, rfl, h3, h4⟩ := hT _ h2
  obtain ⟨e, q1, q2⟩ := hr
  rw [h1] at q1; cases q1
  cases q2
  exact q_iald C h h1 (by unfold vp_in; decide) hdg (kk _ rfl h4)
theorem e_bkld (C : hC p s m args meth c cc nL own D G b0) (h : hw D b0 H0 f H locs) (t : TI G β τ f) (ha : τ a = tg) (h0 : tg ≠ 0) (hT : ∀ e, wf G β τ tg e → isBK G β e) {r : Nat → Int32} (hr : atp f a (eqc (.inl (G 1, 81, .inl r)))) {i : Int32} {l1 h1 : Int} (ii : iv i l1 h1) (hin : 0 ≤ l1 ∧ h1 < 80) (hdg : decode cc pc = .ok (.iaload, 1)) (kk : ∀ x : Int32, x = r i.toInt.toNat → iv x 0 β → W p l e R s m args below meth c H locs cells slots Q (F0 m (pc + 1) ls (.int x :: rest))) : W p l e R s m args below meth c H locs cells slots Q (F0 m pc ls (.int i :: .ref a :: rest)) := by
  obtain ⟨x, h1, h2⟩ := t.at ha h0
  obtain ⟨r2, rfl, h3, h4⟩ := hT _ h2
  obtain ⟨e, q1, q2⟩ := hr
  rw [h1] at q1; cases q1
  cases q2
  exact q_iald C h h1 (iv_in ii (by omega)) hdg (kk _ rfl (h3 _ (iv_cl ii (by omega))))
theorem e_bkA (C : hC p s m args meth c cc nL own D G b0) (h : hw D b0 H0 f H locs) (t : TI G β τ f) (ha : τ a = tg) (h0 : tg ≠ 0) (hT : ∀ e, wf G β τ tg e → isBK G β e) {r : Nat → Int32} (hr : atp f a (eqc (.inl (G 1, 81, .inl r)))) {i : Int32} {l1 h1 hi : Int} (ii : iv i l1 h1) (hin : 0 ≤ l1 ∧ h1 ≤ 80) (hh : β ≤ hi ∧ 8 ≤ hi) (hdg : decode cc pc = .ok (.iaload, 1)) (kk : ∀ x : Int32, x = r i.toInt.toNat → iv x 0 hi → W p l e R s m args below meth c H locs cells slots Q (F0 m (pc + 1) ls (.int x :: rest))) : W p l e R s m args below meth c H locs cells slots Q (F0 m pc ls (.int i :: .ref a :: rest)) := by
  obtain ⟨x, h1, h2⟩ := t.at ha h0
  obtain ⟨r2, rfl, h3, h4⟩ := hT _ h2
  obtain ⟨e, q1, q2⟩ := hr
  rw [h1] at q1; cases q1
  cases q2
  refine q_iald C h h1 (iv_in ii (by omega)) hdg (kk _ rfl ?_)
  by_cases q : i.toInt.toNat < 80
  · exact iv_w (h3 _ q) (by omega)
  · rw [show i.toNatClampNeg = 80 from (by show i.toInt.toNat = 80; omega)]; exact iv_w h4 (by omega)
theorem e_iast (C : hC p s m args meth c cc nL own D G b0) (h : hw D b0 H0 f H locs) (t : TI G β τ f) (o : Fr S τ f0 f) {n : Nat} {lo hi : Int} (ha : τ a = tg) (h0 : tg ≠ 0) (hS : tg ∈ S) (hT : ∀ e, wf G β τ tg e → isIA G n lo hi e) (hT2 : ∀ e, isIA G n lo hi e → wf G β τ tg e) {r : Nat → Int32} (hr : atp f a (eqc (.inl (G 1, n, .inl r)))) {i x : Int32} (hin : vp_in i n) (hx : iv x lo hi) (hdg : decode cc pc = .ok (.iastore, 1)) (kk : ∀ (r1 : Nat → Int32) (f1 : hM), r1 = upd r i.toInt.toNat x → ∀ (H1 : Heap) (locs1 : List Loc), hw D b0 H0 f1 H1 locs1 → TI G β τ f1 → Fr S τ f0 f1 → (∀ q, τ q ≠ tg → f1 q = f q) → (∀ q, q ≠ a → f1 q = f q) → atp f1 a (eqc (.inl (G 1, n, .inl r1))) → W p l e R s m args below meth c H1 locs1 cells slots Q (F0 m (pc + 1) ls rest)) : W p l e R s m args below meth c H locs cells slots Q (F0 m pc ls (.int x :: .int i :: .ref a :: rest)) := by
  obtain ⟨y, h1, h2⟩ := t.at ha h0
  obtain ⟨r2, rfl, h3⟩ := hT _ h2
  obtain ⟨e, q1, q2⟩ := hr
  rw [h1] at q1; cases q1
  cases q2
  refine q_iast C h h1 hin hdg (fun H1 locs1 h9 => kk _ _ rfl H1 locs1 h9 (t.up ha (hT2 _ ⟨_, rfl, fun j => ?_⟩)) (o.upA ha hS h1) (hu_tg ha _) (fun q hq => hu_ne hq) ⟨_, hu_self _ _ _, rfl⟩)
  unfold upd
  split
  · exact hx
  · exact h3 j
theorem e_bast (C : hC p s m args meth c cc nL own D G b0) (h : hw D b0 H0 f H locs) (t : TI G β τ f) (o : Fr S τ f0 f) {n : Nat} (ha : τ a = tg) (h0 : tg ≠ 0) (hS : tg ∈ S) (hT : ∀ e, wf G β τ tg e → isBA G n e) (hT2 : ∀ e, isBA G n e → wf G β τ tg e) {r : Nat → Int32} (hr : atp f a (eqc (.inl (G 0, n, .inl r)))) {i x : Int32} (hin : vp_in i n) (hdg : decode cc pc = .ok (.bastore, 1)) (kk : ∀ (r1 : Nat → Int32) (f1 : hM), r1 = upd r i.toInt.toNat x.toInt8.toInt32 → ∀ (H1 : Heap) (locs1 : List Loc), hw D b0 H0 f1 H1 locs1 → TI G β τ f1 → Fr S τ f0 f1 → (∀ q, τ q ≠ tg → f1 q = f q) → (∀ q, q ≠ a → f1 q = f q) → atp f1 a (eqc (.inl (G 0, n, .inl r1))) → W p l e R s m args below meth c H1 locs1 cells slots Q (F0 m (pc + 1) ls rest)) : W p l e R s m args below meth c H locs cells slots Q (F0 m pc ls (.int x :: .int i :: .ref a :: rest)) := by
  obtain ⟨y, h1, h2⟩ := t.at ha h0
  obtain ⟨r2, rfl, h3⟩ := hT _ h2
  obtain ⟨e, q1, q2⟩ := hr
  rw [h1] at q1; cases q1
  cases q2
  refine q_bast C h h1 hin hdg (fun H1 locs1 h9 => kk _ _ rfl H1 locs1 h9 (t.up ha (hT2 _ ⟨_, rfl, fun j => ?_⟩)) (o.upA ha hS h1) (hu_tg ha _) (fun q hq => hu_ne hq) ⟨_, hu_self _ _ _, rfl⟩)
  unfold upd
  split
  · exact iv_i2b x
  · exact h3 j
theorem e_bkst (C : hC p s m args meth c cc nL own D G b0) (h : hw D b0 H0 f H locs) (t : TI G β τ f) (o : Fr S τ f0 f) (ha : τ a = tg) (h0 : tg ≠ 0) (hS : tg ∈ S) (hT : ∀ e, wf G β τ tg e → isBK G β e) (hT2 : ∀ e, isBK G β e → wf G β τ tg e) {r : Nat → Int32} (hr : atp f a (eqc (.inl (G 1, 81, .inl r)))) {i x : Int32} (hv : (iv i 0 79 ∧ iv x 0 β) ∨ (i.toInt.toNat = 80 ∧ iv x 0 8)) (hdg : decode cc pc = .ok (.iastore, 1)) (kk : ∀ (r1 : Nat → Int32) (f1 : hM), r1 = upd r i.toInt.toNat x → ∀ (H1 : Heap) (locs1 : List Loc), hw D b0 H0 f1 H1 locs1 → TI G β τ f1 → Fr S τ f0 f1 → (∀ q, τ q ≠ tg → f1 q = f q) → (∀ q, q ≠ a → f1 q = f q) → atp f1 a (eqc (.inl (G 1, 81, .inl r1))) → W p l e R s m args below meth c H1 locs1 cells slots Q (F0 m (pc + 1) ls rest)) : W p l e R s m args below meth c H locs cells slots Q (F0 m pc ls (.int x :: .int i :: .ref a :: rest)) := by
  obtain ⟨y, h1, h2⟩ := t.at ha h0
  obtain ⟨r2, rfl, h3, h4⟩ := hT _ h2
  obtain ⟨e, q1, q2⟩ := hr
  rw [h1] at q1; cases q1
  cases q2
  have hi : 0 ≤ i.toInt ∧ i.toInt < ((81 : Nat) : Int) := by rcases hv with z | z <;> omega
  refine q_iast C h h1 (ix_o hi) hdg (fun H1 locs1 h9 => kk _ _ rfl H1 locs1 h9 (t.up ha (hT2 _ ⟨_, rfl, fun j hj => ?_, ?_⟩)) (o.upA ha hS h1) (hu_tg ha _) (fun q hq => hu_ne hq) ⟨_, hu_self _ _ _, rfl⟩)
  · unfold upd
    split
    · rename_i e9
      have e9 : j = i.toInt.toNat := e9
      rcases hv with z | z
      · exact z.2
      · omega
    · exact h3 j hj
  · unfold upd
    split
    · rename_i e9
      have e9 : 80 = i.toInt.toNat := e9
      rcases hv with z | z
      · omega
      · exact z.2
    · exact h4
end ERows
/-! ===== the model's acts, as numbers ===== -/
/-- the kept rows, once more -/
def kp (rk rb : Nat → Int32) (ac : Int) (k : Nat) : Int32 := if ac = 12 then (if k < 891 then rk (k + 81) else rb (k - 891)) else if 81 * ac ≤ (k : Int) ∧ (k : Int) < 81 * ac + 81 then rb (k - 81 * ac.toNat) else rk k
/-- a set comes -/
def cm (rb rd : Nat → Int32) (k : Nat) : Int32 := if k = 80 then rb 80 + 1 else if 10 * (rb 80).toInt ≤ (k : Int) ∧ (k : Int) < 10 * (rb 80).toInt + 10 then rd (k - 10 * (rb 80).toInt.toNat) else rb k
/-- a set goes -/
def dr (rb : Nat → Int32) (u : Int) (k : Nat) : Int32 := if k = 80 then rb 80 - 1 else if 10 * u ≤ (k : Int) ∧ k < 70 then rb (k + 10) else rb k
theorem toInt_addk {x y : Int32} {k : Int} (e : y.toInt = x.toInt + k) (hk : (Int32.ofInt k).toInt = k) (hr : -2147483648 ≤ x.toInt + k ∧ x.toInt + k ≤ 2147483647) : y = x + Int32.ofInt k := eqi (by rw [e, Int32.toInt_add, hk, iv_bm hr.1 hr.2])
theorem toInt_add1 {x y : Int32} (e : y.toInt = x.toInt + 1) : y = x + 1 := eqi (by
  have h1 := iv_rng y
  rw [e, Int32.toInt_add, show (1 : Int32).toInt = 1 from rfl, iv_bm (by have := iv_rng x; omega) (by omega)])
theorem toInt_sub1 {x y : Int32} (e : y.toInt = x.toInt - 1) : y = x - 1 := eqi (by
  have h1 := iv_rng y
  rw [e, Int32.toInt_sub, show (1 : Int32).toInt = 1 from rfl, iv_bm (by omega) (by have := iv_rng x; omega)])
theorem iv_remx {x y : Int32} {h k : Int} (hx : iv x 0 h) (hy : y.toInt = k) (hk : 0 < k) : ((x - x / y * y).toInt = x.toInt % k) ∧ iv (x - x / y * y) 0 (k - 1) := by
  have e : (x - x / y * y).toInt = x.toInt % k := by rw [rem_toInt, hy, Int.tmod_eq_emod_of_nonneg hx.1]
  have h1 := Int.emod_nonneg x.toInt (b := k) (by omega)
  have h2 := Int.emod_lt_of_pos x.toInt (b := k) hk
  exact ⟨e, by rw [iv, e]; omega⟩
/-- a set mirrored -/
def mi (rb : Nat → Int32) (u : Int) (j : Nat) : Int32 := if j < 8 then rb (10 * u + (10 - (j : Int)) % 8).toNat else if j = 8 then rb (10 * u + 9).toNat else rb (10 * u + 8).toNat
/-- a set turned round -/
def tr (rb : Nat → Int32) (u : Int) (j : Nat) : Int32 := if j < 8 then rb (10 * u + ((j : Int) + 4) % 8).toNat else rb (10 * u + j).toNat
/-- two sets joined -/
def jo (rb : Nat → Int32) (u v : Int) (j : Nat) : Int32 := if j < 8 then rb (10 * u + j).toNat + rb (10 * v + j).toNat else rb (10 * u + j).toNat
/-- how many steps -/
def cnt (rb : Nat → Int32) (u : Int) : Nat → Int
  | 0 => 0
  | n + 1 => cnt rb u n + (if 0 < (rb (10 * u + n).toNat).toInt then 1 else 0)
theorem cnt_s {rb : Nat → Int32} {u i z : Int} (h : 0 ≤ i) (hz : z = i + 1) : cnt rb u z.toNat = cnt rb u i.toNat + (if 0 < (rb (10 * u + i).toNat).toInt then 1 else 0) := by
  rw [show z.toNat = i.toNat + 1 by omega, cnt, show ((i.toNat : Nat) : Int) = i by omega]
/-- a set scaled -/
def sc (rb : Nat → Int32) (u : Int) (b : Int32) (k : Nat) : Int32 := if 10 * u ≤ (k : Int) ∧ (k : Int) < 10 * u + 8 then rb k * b else rb k
/-- a set that starts elsewhere -/
def so (rb : Nat → Int32) (u : Int) (x y : Int32) (k : Nat) : Int32 := if (k : Int) = 10 * u + 8 then x else if (k : Int) = 10 * u + 9 then y else rb k
/-- a weight changed -/
def we (rb : Nat → Int32) (u s : Int) (x : Int32) (k : Nat) : Int32 := if (k : Int) = 10 * u + s then x else rb k
theorem cme_eq {rb rd rd2 : Nat → Int32} (h : ∀ k : Nat, k < 10 → rd k = rd2 k) (h8 : 0 ≤ (rb 80).toInt) : ∀ k : Nat, k < 81 → cm rb rd k = cm rb rd2 k := fun k hk => by
  unfold cm
  split
  · rfl
  · split
    · exact h _ (by omega)
    · rfl
/-- what a set's weights come to -/
def wsm (rb : Nat → Int32) (u : Int) : Nat → Int
  | 0 => 0
  | n + 1 => wsm rb u n + (rb (10 * u + (n : Int)).toNat).toInt
theorem wsm_s {rb : Nat → Int32} {u i z : Int} (h : 0 ≤ i) (hz : z = i + 1) : wsm rb u z.toNat = wsm rb u i.toNat + (rb (10 * u + i).toNat).toInt := by
  subst hz
  rw [show (i + 1).toNat = i.toNat + 1 by omega, wsm, show ((i.toNat : Nat) : Int) = i by omega]
theorem wsm_c {v v2 : Nat → Int32} {u : Int} (hu : 0 ≤ u ∧ u ≤ 7) (h : ∀ k, k < 80 → v k = v2 k) : ∀ n : Nat, n ≤ 8 → wsm v u n = wsm v2 u n
  | 0, _ => rfl
  | n + 1, hn => by rw [wsm, wsm, wsm_c hu h n (by omega), h _ (by omega)]
/-- one more was refused -/
theorem bump_eq {r0 r1 : Nat → Int32} {u : Int32} {c W : Int} (h : ∀ k : Nat, r1 k = if k = u.toInt.toNat then r0 k + 1 else r0 k) (hu : u.toInt = c) (hc : 0 ≤ c) (hw : W = c) : ∀ k : Nat, k < 4 → r1 k = if (k : Int) = W then r0 k + 1 else r0 k := fun k _ => by
  rw [h k, hw]
  by_cases q : k = u.toInt.toNat
  · rw [if_pos q, if_pos (by omega)]
  · rw [if_neg q, if_neg (by omega)]
theorem bump_no {r0 : Nat → Int32} {W : Int} (hw : W = -1) : ∀ k : Nat, k < 4 → r0 k = if (k : Int) = W then r0 k + 1 else r0 k := fun k _ => by
  rw [hw, if_neg (by omega)]
theorem bump_tr {r0 r1 : Nat → Int32} {W W2 : Int} (h : ∀ k : Nat, k < 4 → r1 k = if (k : Int) = W2 then r0 k + 1 else r0 k) (hw : W = W2) : ∀ k : Nat, k < 4 → r1 k = if (k : Int) = W then r0 k + 1 else r0 k := by
  rw [hw]
  exact h
/-! ===== the model's grid exactly ===== -/
section LRows
variable {p : Program} {l : Launch} {e : Env} {R : Room} {s : State} {m : MethodId} {args : Array Value} {below : List Frame} {meth : Method} {c : Code} {H : Heap} {locs : List Loc} {cells slots : Nat} {Q : State → Prop}
variable {cc : ByteArray} {nL pc : Nat} {ls : Array Slot} {rest : List Value} {D : va_G} {G : Nat → Nat} {b0 a : Nat} {f f0 : hM} {own : String} {H0 : Heap} {τ : Nat → Nat} {β : Int} {tg : Nat} {S : List Nat}
abbrev lrw (G : Nat → Nat) (n : Nat) (r : Nat → Int64) : va_E → Prop := eqc (.inl (G 2, n, .inr (.inl r)))
theorem e_lald (C : hC p s m args meth c cc nL own D G b0) (h : hw D b0 H0 f H locs) (t : TI G β τ f) {n : Nat} (ha : τ a = tg) (h0 : tg ≠ 0) (hT : ∀ e, wf G β τ tg e → isLA G n e) {r : Nat → Int64} (hr : atp f a (lrw G n r)) {i : Int32} (hin : vp_in i n) (hdg : decode cc pc = .ok (.laload, 1)) (kk : ∀ x : Int64, x = r i.toInt.toNat → W p l e R s m args below meth c H locs cells slots Q (F0 m (pc + 1) ls (.long x :: rest))) : W p l e R s m args below meth c H locs cells slots Q (F0 m pc ls (.int i :: .ref a :: rest)) :=
  q_lald C h (eqc_some hr) hin hdg (kk _ rfl)
theorem e_last (C : hC p s m args meth c cc nL own D G b0) (h : hw D b0 H0 f H locs) (t : TI G β τ f) (o : Fr S τ f0 f) {n : Nat} (ha : τ a = tg) (h0 : tg ≠ 0) (hS : tg ∈ S) (hT : ∀ e, wf G β τ tg e → isLA G n e) (hT2 : ∀ e, isLA G n e → wf G β τ tg e) {r : Nat → Int64} (hr : atp f a (lrw G n r)) {i : Int32} {x : Int64} (hin : vp_in i n) (hdg : decode cc pc = .ok (.lastore, 1)) (kk : ∀ (r1 : Nat → Int64) (f1 : hM), r1 = vp_updL r i.toInt.toNat x → ∀ (H1 : Heap) (locs1 : List Loc), hw D b0 H0 f1 H1 locs1 → TI G β τ f1 → Fr S τ f0 f1 → (∀ q, τ q ≠ tg → f1 q = f q) → (∀ q, q ≠ a → f1 q = f q) → atp f1 a (lrw G n r1) → W p l e R s m args below meth c H1 locs1 cells slots Q (F0 m (pc + 1) ls rest)) : W p l e R s m args below meth c H locs cells slots Q (F0 m pc ls (.long x :: .int i :: .ref a :: rest)) :=
  q_last C h (eqc_some hr) hin hdg (fun H1 locs1 h9 => kk _ _ rfl H1 locs1 h9 (t.up ha (hT2 _ ⟨_, rfl⟩)) (o.upA ha hS (eqc_some hr)) (hu_tg ha _) (fun q hq => hu_ne hq) ⟨_, hu_self _ _ _, rfl⟩)
end LRows
theorem la_get {G τ : Nat → Nat} {f : hM} {a tg n : Nat} (t : TI G 9 τ f) (ha : τ a = tg) (h0 : tg ≠ 0) (hT : ∀ e, wf G 9 τ tg e → isLA G n e) : ∃ r : Nat → Int64, atp f a (lrw G n r) := by
  obtain ⟨x, h1, h2⟩ := t.at ha h0
  obtain ⟨r, rfl⟩ := hT _ h2
  exact ⟨r, _, h1, rfl⟩
theorem updL_at {r : Nat → Int64} {k i : Nat} {x : Int64} (h : k = i) : vp_updL r i x k = x := if_pos h
theorem updL_off {r : Nat → Int64} {k i : Nat} {x : Int64} (h : ¬ k = i) : vp_updL r i x k = r k := if_neg h
def ddx (s : Int) : Int := if s = 0 ∨ s = 4 then 0 else if s < 4 then 1 else -1
def ddy (s : Int) : Int := if s = 2 ∨ s = 6 then 0 else if s < 2 ∨ s = 7 then 1 else -1
theorem ddx_iv (s : Int) : -1 ≤ ddx s ∧ ddx s ≤ 1 := by unfold ddx; (repeat' split) <;> omega
theorem ddy_iv (s : Int) : -1 ≤ ddy s ∧ ddy s ≤ 1 := by unfold ddy; (repeat' split) <;> omega
abbrev insd (p x y : Int) : Prop := (p = 0 → 0 ≤ x ∧ 0 ≤ y) ∧ (p = 1 → 0 ≤ y) ∧ (p = 3 → 0 ≤ x)
def cel (x y : Int) : Nat := (140 * (x + 65) + y + 65).toNat
/-- a number with one more -/
def wth (v more : Int64) (w : Int32) (so : Int) : Int64 := if so = 1 then (v + more * w.toInt64) - (v + more * w.toInt64) / 1000003 * 1000003 else if so = 2 then v + more * w.toInt64 else if so = 3 then v + more else 1
def gS (rb : Nat → Int32) (u pl so x y : Int) (v : Int64) : Nat → (Nat → Int64) → (Nat → Int64)
  | 0, r => r
  | s + 1, r => if 0 < (rb (10 * u + s).toNat).toInt ∧ insd pl (x + ddx s) (y + ddy s) ∧ cel (x + ddx s) (y + ddy s) < 19600 then vp_updL (gS rb u pl so x y v s r) (cel (x + ddx s) (y + ddy s)) (wth (gS rb u pl so x y v s r (cel (x + ddx s) (y + ddy s))) v (rb (10 * u + s).toNat) so) else gS rb u pl so x y v s r
def gY (rb : Nat → Int32) (u pl so : Int) (g : Nat → Int64) (x yb : Int) : Nat → (Nat → Int64) → (Nat → Int64)
  | 0, r => r
  | j + 1, r => if cel x (yb + j) < 19600 ∧ g (cel x (yb + j)) ≠ 0 then gS rb u pl so x (yb + j) (g (cel x (yb + j))) 8 (gY rb u pl so g x yb j r) else gY rb u pl so g x yb j r
def gX (rb : Nat → Int32) (u pl so : Int) (g : Nat → Int64) (xb yb : Int) (m : Nat) : Nat → (Nat → Int64) → (Nat → Int64)
  | 0, r => r
  | i + 1, r => gY rb u pl so g (xb + i) yb m (gX rb u pl so g xb yb m i r)
/-- a step more -/
def gof (rb : Nat → Int32) (u pl so gn : Int) (g r : Nat → Int64) : Nat → Int64 := gX rb u pl so g ((rb (10 * u + 8).toNat).toInt - gn) ((rb (10 * u + 9).toNat).toInt - gn) (2 * gn + 1).toNat (2 * gn + 1).toNat r
def agr (r r2 : Nat → Int64) : Prop := ∀ k : Nat, k < 19600 → r k = r2 k
theorem agr.rf (r : Nat → Int64) : agr r r := fun _ _ => rfl
theorem agr.tr {r1 r2 r3 : Nat → Int64} (h : agr r1 r2) (h2 : agr r2 r3) : agr r1 r3 := fun k hk => (h k hk).trans (h2 k hk)
theorem agr.sy {r1 r2 : Nat → Int64} (h : agr r1 r2) : agr r2 r1 := fun k hk => (h k hk).symm
theorem gS_c {rb : Nat → Int32} {u pl so x y : Int} {v : Int64} {r r2 : Nat → Int64} (h : agr r r2) : ∀ s : Nat, agr (gS rb u pl so x y v s r) (gS rb u pl so x y v s r2)
  | 0 => h
  | s + 1 => fun k hk => by
    have ih := gS_c (rb := rb) (u := u) (pl := pl) (so := so) (x := x) (y := y) (v := v) h s
    rw [gS, gS]
    split
    · rename_i q
      by_cases e : k = cel (x + ddx s) (y + ddy s)
      · rw [updL_at e, updL_at e, ih _ q.2.2]
      · rw [updL_off e, updL_off e]; exact ih k hk
    · exact ih k hk
theorem gY_c {rb : Nat → Int32} {u pl so : Int} {g g2 : Nat → Int64} {x yb : Int} {r r2 : Nat → Int64} (hg : agr g g2) (h : agr r r2) : ∀ j : Nat, agr (gY rb u pl so g x yb j r) (gY rb u pl so g2 x yb j r2)
  | 0 => h
  | j + 1 => by
    have ih := gY_c (rb := rb) (u := u) (pl := pl) (so := so) (x := x) (yb := yb) hg h j
    rw [gY, gY]
    by_cases q : cel x (yb + j) < 19600
    · rw [hg _ q]
      split
      · exact gS_c ih 8
      · exact ih
    · rw [if_neg (fun z => q z.1), if_neg (fun z => q z.1)]; exact ih
theorem gX_c {rb : Nat → Int32} {u pl so : Int} {g g2 : Nat → Int64} {xb yb : Int} {m : Nat} {r r2 : Nat → Int64} (hg : agr g g2) (h : agr r r2) : ∀ i : Nat, agr (gX rb u pl so g xb yb m i r) (gX rb u pl so g2 xb yb m i r2)
  | 0 => h
  | i + 1 => by rw [gX, gX]; exact gY_c hg (gX_c hg h i) m
theorem gof_c {rb : Nat → Int32} {u pl so gn : Int} {g g2 r r2 : Nat → Int64} (hg : agr g g2) (h : agr r r2) : agr (gof rb u pl so gn g r) (gof rb u pl so gn g2 r2) := gX_c hg h _
theorem gS_s {rb : Nat → Int32} {u pl so x y : Int} {v : Int64} {r : Nat → Int64} {i z : Int} (h : 0 ≤ i) (hz : z = i + 1) : gS rb u pl so x y v z.toNat r = if 0 < (rb (10 * u + i).toNat).toInt ∧ insd pl (x + ddx i) (y + ddy i) ∧ cel (x + ddx i) (y + ddy i) < 19600 then vp_updL (gS rb u pl so x y v i.toNat r) (cel (x + ddx i) (y + ddy i)) (wth (gS rb u pl so x y v i.toNat r (cel (x + ddx i) (y + ddy i))) v (rb (10 * u + i).toNat) so) else gS rb u pl so x y v i.toNat r := by
  rw [show z.toNat = i.toNat + 1 by omega, gS, show ((i.toNat : Nat) : Int) = i by omega]
theorem gY_s {rb : Nat → Int32} {u pl so : Int} {g : Nat → Int64} {x yb : Int} {r : Nat → Int64} {y z : Int} (h : 0 ≤ y - yb) (hz : z = y + 1) : gY rb u pl so g x yb (z - yb).toNat r = if cel x y < 19600 ∧ g (cel x y) ≠ 0 then gS rb u pl so x y (g (cel x y)) 8 (gY rb u pl so g x yb (y - yb).toNat r) else gY rb u pl so g x yb (y - yb).toNat r := by
  rw [show (z - yb).toNat = (y - yb).toNat + 1 by omega, gY, show yb + (((y - yb).toNat : Nat) : Int) = y by omega]
theorem gX_s {rb : Nat → Int32} {u pl so : Int} {g : Nat → Int64} {xb yb : Int} {m : Nat} {r : Nat → Int64} {x z : Int} (h : 0 ≤ x - xb) (hz : z = x + 1) : gX rb u pl so g xb yb m (z - xb).toNat r = gY rb u pl so g x yb m (gX rb u pl so g xb yb m (x - xb).toNat r) := by
  rw [show (z - xb).toNat = (x - xb).toNat + 1 by omega, gX, show xb + (((x - xb).toNat : Nat) : Int) = x by omega]
/-- the beginning -/
def bgn (rb : Nat → Int32) (u : Int) (k : Nat) : Int64 := if k = cel (rb (10 * u + 8).toNat).toInt (rb (10 * u + 9).toNat).toInt then 1 else 0
/-- n steps -/
def gN (rb : Nat → Int32) (u pl so : Int) : Nat → (Nat → Int64)
  | 0 => bgn rb u
  | n + 1 => gof rb u pl so n (gN rb u pl so n) (fun _ => 0)
/-- all of a kind -/
abbrev ofk (rb : Nat → Int32) (u kd x y : Int) : Prop := kd = 0 ∨ (kd = 1 ∧ x = (rb (10 * u + 8).toNat).toInt ∧ y = (rb (10 * u + 9).toNat).toInt) ∨ (kd = 2 ∧ y = 0) ∨ (kd = 3 ∧ x = 0) ∨ (¬ (0 ≤ kd ∧ kd ≤ 3) ∧ x = y)
def sY (rb : Nat → Int32) (u kd : Int) (g : Nat → Int64) (x yb : Int) : Nat → Int64 → Int64
  | 0, r => r
  | j + 1, r => if ofk rb u kd x (yb + j) ∧ cel x (yb + j) < 19600 then sY rb u kd g x yb j r + g (cel x (yb + j)) else sY rb u kd g x yb j r
def sX (rb : Nat → Int32) (u kd : Int) (g : Nat → Int64) (xb yb : Int) (m : Nat) : Nat → Int64 → Int64
  | 0, r => r
  | i + 1, r => sY rb u kd g (xb + i) yb m (sX rb u kd g xb yb m i r)
def smf (rb : Nat → Int32) (u kd gn : Int) (g : Nat → Int64) : Int32 := (sX rb u kd g ((rb (10 * u + 8).toNat).toInt - gn) ((rb (10 * u + 9).toNat).toInt - gn) (2 * gn + 1).toNat (2 * gn + 1).toNat 0 - sX rb u kd g ((rb (10 * u + 8).toNat).toInt - gn) ((rb (10 * u + 9).toNat).toInt - gn) (2 * gn + 1).toNat (2 * gn + 1).toNat 0 / 1000003 * 1000003).toInt32
theorem sY_c {rb : Nat → Int32} {u kd : Int} {g g2 : Nat → Int64} {x yb : Int} {r : Int64} (hg : agr g g2) : ∀ j : Nat, sY rb u kd g x yb j r = sY rb u kd g2 x yb j r
  | 0 => rfl
  | j + 1 => by
    rw [sY, sY, sY_c hg j]
    split
    · rename_i q; rw [hg _ q.2]
    · rfl
theorem sX_c {rb : Nat → Int32} {u kd : Int} {g g2 : Nat → Int64} {xb yb : Int} {m : Nat} {r : Int64} (hg : agr g g2) : ∀ i : Nat, sX rb u kd g xb yb m i r = sX rb u kd g2 xb yb m i r
  | 0 => rfl
  | i + 1 => by rw [sX, sX, sX_c hg i, sY_c hg m]
theorem smf_c {rb : Nat → Int32} {u kd gn : Int} {g g2 : Nat → Int64} (hg : agr g g2) : smf rb u kd gn g = smf rb u kd gn g2 := by unfold smf; rw [sX_c hg]
theorem sY_s {rb : Nat → Int32} {u kd : Int} {g : Nat → Int64} {x yb : Int} {r : Int64} {y z : Int} (h : 0 ≤ y - yb) (hz : z = y + 1) : sY rb u kd g x yb (z - yb).toNat r = if ofk rb u kd x y ∧ cel x y < 19600 then sY rb u kd g x yb (y - yb).toNat r + g (cel x y) else sY rb u kd g x yb (y - yb).toNat r := by
  rw [show (z - yb).toNat = (y - yb).toNat + 1 by omega, sY, show yb + (((y - yb).toNat : Nat) : Int) = y by omega]
theorem sX_s {rb : Nat → Int32} {u kd : Int} {g : Nat → Int64} {xb yb : Int} {m : Nat} {r : Int64} {x z : Int} (h : 0 ≤ x - xb) (hz : z = x + 1) : sX rb u kd g xb yb m (z - xb).toNat r = sY rb u kd g x yb m (sX rb u kd g xb yb m (x - xb).toNat r) := by
  rw [show (z - xb).toNat = (x - xb).toNat + 1 by omega, sX, show xb + (((x - xb).toNat : Nat) : Int) = x by omega]
/-- the grid holds gf -/
def GRp (G τ : Nat → Nat) (f : hM) (u : Nat) (gf : Nat → Int64) : Prop := ∃ (ga gb : Nat) (r r2 : Nat → Int64), ga ≠ gb ∧ (τ ga = 67 ∧ τ gb = 67) ∧ atp f u (fd 12 (.ref ga)) ∧ atp f u (fd 13 (.ref gb)) ∧ atp f ga (lrw G 19600 r) ∧ atp f gb (lrw G 19600 r2) ∧ agr r gf
theorem GRp.tg {G τ : Nat → Nat} {f g : hM} {u tg : Nat} {gf : Nat → Int64} (h : GRp G τ f u gf) (hq : ∀ q, τ q ≠ tg → g q = f q) (hu : τ u = 60) (n : 60 ≠ tg ∧ 67 ≠ tg) : GRp G τ g u gf := by
  obtain ⟨ga, gb, r, r2, h1, h2, h3, h4, h5, h6, h7⟩ := h
  exact ⟨ga, gb, r, r2, h1, h2, h3.tg hq hu n.1, h4.tg hq hu n.1, h5.tg hq h2.1 n.2, h6.tg hq h2.2 n.2, h7⟩
theorem GRp.ng {G τ : Nat → Nat} {f : hM} {u : Nat} {gf : Nat → Int64} (h : GRp G τ f u gf) : NGs τ f u := by
  obtain ⟨ga, gb, r, r2, h1, h2, h3, h4, h5, h6, h7⟩ := h
  exact ⟨ga, gb, h1, h2, h3, h4⟩
theorem GRp.c {G τ : Nat → Nat} {f : hM} {u : Nat} {gf gf2 : Nat → Int64} (h : GRp G τ f u gf) (e : agr gf gf2) : GRp G τ f u gf2 := by
  obtain ⟨ga, gb, r, r2, h1, h2, h3, h4, h5, h6, h7⟩ := h
  exact ⟨ga, gb, r, r2, h1, h2, h3, h4, h5, h6, h7.tr e⟩
/-! ===== numbers modulo the prime ===== -/
theorem L_mulp {a b z : Int64} {A B : Int} (e : z = a * b) (ha : 0 ≤ a.toInt ∧ a.toInt ≤ A) (hb : 0 ≤ b.toInt ∧ b.toInt ≤ B) (h : A * B ≤ 9223372036854775807) : z.toInt = a.toInt * b.toInt ∧ 0 ≤ z.toInt ∧ z.toInt ≤ A * B := by
  have q1 : 0 ≤ a.toInt * b.toInt := Int.mul_nonneg ha.1 hb.1
  have q2 : a.toInt * b.toInt ≤ A * B := Int.mul_le_mul ha.2 hb.2 hb.1 (by omega)
  have e1 : z.toInt = a.toInt * b.toInt := by
    rw [e, Int64.toInt_mul]
    exact Int.bmod_eq_of_le (by omega) (by omega)
  exact ⟨e1, by omega, by omega⟩
theorem L_add {a b z : Int64} (e : z = a + b) (h : -9223372036854775808 ≤ a.toInt + b.toInt ∧ a.toInt + b.toInt ≤ 9223372036854775807) : z.toInt = a.toInt + b.toInt := by
  rw [e, Int64.toInt_add]
  exact Int.bmod_eq_of_le (by omega) (by omega)
theorem L_sub {a b z : Int64} (e : z = a - b) (h : -9223372036854775808 ≤ a.toInt - b.toInt ∧ a.toInt - b.toInt ≤ 9223372036854775807) : z.toInt = a.toInt - b.toInt := by
  rw [e, Int64.toInt_sub]
  exact Int.bmod_eq_of_le (by omega) (by omega)
theorem L_rem {x z : Int64} (e : z = x - x / 1000003 * 1000003) (h : 0 ≤ x.toInt) : z.toInt = x.toInt % 1000003 := by
  rw [e, lrem_t, show (1000003 : Int64).toInt = 1000003 from rfl, Int.tmod_eq_emod_of_nonneg h]
theorem L_l2i {x : Int64} {z : Int32} (e : z = x.toInt32) (h : -2147483648 ≤ x.toInt ∧ x.toInt ≤ 2147483647) : z.toInt = x.toInt := by
  rw [e, Int64.toInt_toInt32, iv_bm (by omega) (by omega)]
/-- the residue, of what may be below 0 -/
theorem res_p {x w : Int64} {z : Int32} (e1 : w = x - x / 1000003 * 1000003) (h : 0 ≤ w.toInt) (e2 : z = w.toInt32) : z.toInt = x.toInt % 1000003 := by
  have t := lrem_t x 1000003
  rw [← e1, show (1000003 : Int64).toInt = 1000003 from rfl] at t
  have b1 := Int.lt_tmod_of_pos x.toInt (show (0 : Int) < 1000003 by decide)
  have b2 := Int.tmod_lt_of_pos x.toInt (show (0 : Int) < 1000003 by decide)
  have hz := L_l2i e2 (by omega)
  have q := Int.tmod_add_mul_tdiv x.toInt 1000003
  have c : x.toInt % 1000003 = (x.toInt.tmod 1000003) % 1000003 := by
    conv => lhs; rw [← q]
    exact Int.add_mul_emod_self_left _ _ _
  rw [c, hz, t]
  exact (Int.emod_eq_of_lt (by omega) (by omega)).symm
theorem res_n {x w w2 : Int64} {z : Int32} (e1 : w = x - x / 1000003 * 1000003) (h : w.toInt < 0) (e3 : w2 = w + 1000003) (e2 : z = w2.toInt32) : z.toInt = x.toInt % 1000003 := by
  have t := lrem_t x 1000003
  rw [← e1, show (1000003 : Int64).toInt = 1000003 from rfl] at t
  have b1 := Int.lt_tmod_of_pos x.toInt (show (0 : Int) < 1000003 by decide)
  have b2 := Int.tmod_lt_of_pos x.toInt (show (0 : Int) < 1000003 by decide)
  have n1 : (1000003 : Int64).toInt = 1000003 := rfl
  have hw := L_add e3 (by omega)
  have hz := L_l2i e2 (by omega)
  have q := Int.tmod_add_mul_tdiv x.toInt 1000003
  have c : x.toInt % 1000003 = (x.toInt.tmod 1000003 + 1000003) % 1000003 := by
    rw [Int.add_emod_right]
    conv => lhs; rw [← q]
    exact Int.add_mul_emod_self_left _ _ _
  rw [c, hz, hw, t, n1]
  exact (Int.emod_eq_of_lt (by omega) (by omega)).symm
/-- square and multiply -/
def sqm : Nat → Int → Int → Int → Int
  | 0, p, _, _ => p
  | n + 1, p, q, k => if k ≤ 0 then p else sqm n (if k % 2 = 1 then p * q % 1000003 else p) (q * q % 1000003) (k / 2)
def pinv (v : Int) : Int := sqm 40 1 v 1000001
theorem sqm_0 {n : Nat} {p q k : Int} (h : k ≤ 0) : sqm n p q k = p := by
  cases n with
  | zero => rfl
  | succ n => rw [sqm, if_pos h]
/-- how many rounds are left doesn't tell, when there are enough -/
theorem sqm_f : ∀ (n m : Nat) (p q k : Int), k < 2 ^ n → k < 2 ^ m → sqm n p q k = sqm m p q k
  | 0, m, p, q, k, h, _ => by rw [sqm_0 (n := 0) (by omega), sqm_0 (n := m) (by omega)]
  | n + 1, 0, p, q, k, _, h => by rw [sqm_0 (n := n + 1) (by omega), sqm_0 (n := 0) (by omega)]
  | n + 1, m + 1, p, q, k, h1, h2 => by
    rw [sqm, sqm]
    by_cases c : k ≤ 0
    · rw [if_pos c, if_pos c]
    · rw [if_neg c, if_neg c]
      have e1 : (2 : Int) ^ (n + 1) = 2 ^ n * 2 := Int.pow_succ 2 n
      have e2 : (2 : Int) ^ (m + 1) = 2 ^ m * 2 := Int.pow_succ 2 m
      exact sqm_f n m _ _ _ (by omega) (by omega)
theorem sqm_s {p q k : Int} (h : 0 < k) (h2 : k ≤ 1000001) : sqm 40 p q k = sqm 40 (if k % 2 = 1 then p * q % 1000003 else p) (q * q % 1000003) (k / 2) := by
  rw [sqm, if_neg (by omega)]
  exact sqm_f 39 40 _ _ _ (by have : (2 : Int) ^ 39 = 549755813888 := by decide
                              omega) (by have : (2 : Int) ^ 40 = 1099511627776 := by decide
                                         omega)
theorem and1_m {x z : Int32} (e : z = x &&& 1) (h : 0 ≤ x.toInt) : z.toInt = x.toInt % 2 := by
  obtain ⟨j, hj, ej⟩ := pk_andE x (m := 1) 1 (by decide)
  have e1 : (x &&& 1).toBitVec.toNat = x.toBitVec.toNat % 2 := by
    show (x.toBitVec &&& 1#32).toNat = _
    rw [BitVec.toNat_and]
    exact Nat.and_two_pow_sub_one_eq_mod x.toBitVec.toNat 1
  have h1 : x.toInt = (x.toBitVec.toNat : Int) := by
    have := Int32.toInt_lt x
    show x.toBitVec.toInt = _
    rw [BitVec.toInt_eq_toNat_cond]
    split
    · rfl
    · next c =>
      have h' : (0 : Int) ≤ x.toBitVec.toInt := h
      rw [BitVec.toInt_eq_toNat_cond, if_neg c] at h'
      have := x.toBitVec.isLt
      omega
  have h2 : z.toInt = (z.toBitVec.toNat : Int) := by
    rw [e]
    show (x &&& 1).toBitVec.toInt = _
    rw [BitVec.toInt_eq_toNat_cond, if_pos (by rw [e1]; omega)]
  rw [h2, h1, e, e1]
  omega
def mx (a b c v : Int) : Int := (a * v + b + c * pinv v) % 1000003
def quo (o u old : Int) : Int := if o = 0 ∨ u = 0 then -1 else o * pinv (u * old % 1000003) % 1000003
def tX (W : Int → Int) (x y : Int) : Int := quo (mx (W 7) (W 6) (W 5) y) (mx (W 1) (W 2) (W 3) y) x
def tY (W : Int → Int) (x y : Int) : Int := quo (mx (W 3) (W 4) (W 5) x) (mx (W 1) (W 0) (W 7) x) y
def tw_ (W : Int → Int) (x y wh : Int) : Int := if wh = 0 then tX W x y else tY W x y
def ker (W : Int → Int) (x y : Int) : Int := (mx (W 1) (W 2) (W 3) y * x % 1000003 + mx (W 7) (W 6) (W 5) y * pinv x % 1000003 + mx (W 0) 0 (W 4) y) % 1000003
theorem mx_iv (a b c v : Int) : 0 ≤ mx a b c v ∧ mx a b c v ≤ 1000002 := by unfold mx; omega
/-- v to the d -/
def byf (v d : Int) : Int := if d = 0 then 1 else if 0 < d then v else pinv v
def knf (W : Int → Int) (x y : Int) : Nat → Int
  | 0 => 0
  | n + 1 => knf W x y n + W n * byf x (ddx n) % 1000003 * byf y (ddy n) % 1000003
def ptf (W : Int → Int) (wh pw v : Int) : Nat → Int
  | 0 => 0
  | n + 1 => if (if wh = 0 then ddx n else ddy n) = pw then ptf W wh pw v n + W n * byf v (if wh = 0 then ddy n else ddx n) % 1000003 else ptf W wh pw v n
theorem knf_s {W : Int → Int} {x y i z : Int} (h : 0 ≤ i) (hz : z = i + 1) : knf W x y z.toNat = knf W x y i.toNat + W i * byf x (ddx i) % 1000003 * byf y (ddy i) % 1000003 := by
  rw [show z.toNat = i.toNat + 1 by omega, knf, show ((i.toNat : Nat) : Int) = i by omega]
theorem ptf_s {W : Int → Int} {wh pw v i z : Int} (h : 0 ≤ i) (hz : z = i + 1) : ptf W wh pw v z.toNat = if (if wh = 0 then ddx i else ddy i) = pw then ptf W wh pw v i.toNat + W i * byf v (if wh = 0 then ddy i else ddx i) % 1000003 else ptf W wh pw v i.toNat := by
  rw [show z.toNat = i.toNat + 1 by omega, ptf, show ((i.toNat : Nat) : Int) = i by omega]
/-! alike modulo the prime -/
theorem m_mul (a b : Int) : (a % 1000003 * b) % 1000003 = a * b % 1000003 := by
  rw [Int.mul_emod, Int.emod_emod_of_dvd _ (Int.dvd_refl _), ← Int.mul_emod]
theorem m_c {a b : Int} (k : Int) (h : a = b + 1000003 * k) : a % 1000003 = b % 1000003 := by
  rw [h]; exact Int.add_mul_emod_self_left _ _ _
theorem m_d (a : Int) : a % 1000003 = a + 1000003 * (-(a / 1000003)) := by
  have := Int.emod_add_mul_ediv a 1000003
  rw [Int.mul_neg]
  omega
theorem ptf_0p (W : Int → Int) (v : Int) : ptf W 0 1 v 8 % 1000003 = mx (W 1) (W 2) (W 3) v := by
  have e : ptf W 0 1 v 8 = W 1 * v % 1000003 + W 2 % 1000003 + W 3 * pinv v % 1000003 := by
    simp [ptf, ddx, ddy, byf]
  rw [e]; unfold mx
  omega
theorem ptf_0n (W : Int → Int) (v : Int) : ptf W 0 (-1) v 8 % 1000003 = mx (W 7) (W 6) (W 5) v := by
  have e : ptf W 0 (-1) v 8 = W 5 * pinv v % 1000003 + W 6 % 1000003 + W 7 * v % 1000003 := by
    simp [ptf, ddx, ddy, byf]
  rw [e]; unfold mx
  omega
theorem ptf_1p (W : Int → Int) (v : Int) : ptf W 1 1 v 8 % 1000003 = mx (W 1) (W 0) (W 7) v := by
  have e : ptf W 1 1 v 8 = W 0 % 1000003 + W 1 * v % 1000003 + W 7 * pinv v % 1000003 := by
    simp [ptf, ddx, ddy, byf]
  rw [e]; unfold mx
  omega
theorem ptf_1n (W : Int → Int) (v : Int) : ptf W 1 (-1) v 8 % 1000003 = mx (W 3) (W 4) (W 5) v := by
  have e : ptf W 1 (-1) v 8 = W 3 * v % 1000003 + W 4 % 1000003 + W 5 * pinv v % 1000003 := by
    simp [ptf, ddx, ddy, byf]
  rw [e]; unfold mx
  omega
theorem knf_8 (W : Int → Int) (x y : Int) : knf W x y 8 % 1000003 = ker W x y := by
  have e : knf W x y 8 = W 0 * 1 % 1000003 * y % 1000003 + W 1 * x % 1000003 * y % 1000003 + W 2 * x % 1000003 * 1 % 1000003 + W 3 * x % 1000003 * pinv y % 1000003 + W 4 * 1 % 1000003 * pinv y % 1000003 + W 5 * pinv x % 1000003 * pinv y % 1000003 + W 6 * pinv x % 1000003 * 1 % 1000003 + W 7 * pinv x % 1000003 * y % 1000003 := by
    simp [knf, ddx, ddy, byf]
  rw [e]
  unfold ker mx
  rw [m_mul, m_mul, m_mul, m_mul, m_mul, m_mul, m_mul, m_mul, m_mul, m_mul]
  generalize pinv x = X
  generalize pinv y = Y
  simp only [Int.add_mul, Int.mul_one, Int.add_zero]
  have a1 : W 1 * y * x = W 1 * x * y := Int.mul_right_comm _ _ _
  have a3 : W 3 * Y * x = W 3 * x * Y := Int.mul_right_comm _ _ _
  have a5 : W 5 * Y * X = W 5 * X * Y := Int.mul_right_comm _ _ _
  have a7 : W 7 * y * X = W 7 * X * y := Int.mul_right_comm _ _ _
  rw [a1, a3, a5, a7]
  omega
theorem ker_c {W V : Int → Int} (h : ∀ k : Int, 0 ≤ k → k < 8 → W k = V k) (x y : Int) : ker W x y = ker V x y := by
  unfold ker
  rw [h 0 (by decide) (by decide), h 1 (by decide) (by decide), h 2 (by decide) (by decide), h 3 (by decide) (by decide), h 4 (by decide) (by decide), h 5 (by decide) (by decide), h 6 (by decide) (by decide), h 7 (by decide) (by decide)]
theorem tX_c {W V : Int → Int} (h : ∀ k : Int, 0 ≤ k → k < 8 → W k = V k) (x y : Int) : tX W x y = tX V x y := by
  unfold tX
  rw [h 1 (by decide) (by decide), h 2 (by decide) (by decide), h 3 (by decide) (by decide), h 5 (by decide) (by decide), h 6 (by decide) (by decide), h 7 (by decide) (by decide)]
theorem tY_c {W V : Int → Int} (h : ∀ k : Int, 0 ≤ k → k < 8 → W k = V k) (x y : Int) : tY W x y = tY V x y := by
  unfold tY
  rw [h 0 (by decide) (by decide), h 1 (by decide) (by decide), h 3 (by decide) (by decide), h 4 (by decide) (by decide), h 5 (by decide) (by decide), h 7 (by decide) (by decide)]
theorem wf_bf {w bk : Nat → Int32} {u : Int} (hw : ∀ k : Nat, k < 8 → w k = bk (10 * u.toNat + k)) (hu : 0 ≤ u) : ∀ k : Int, 0 ≤ k → k < 8 → (fun k : Int => (w k.toNat).toInt) k = (fun k : Int => (bk (10 * u + k).toNat).toInt) k := fun k h0 h8 => by
  show (w k.toNat).toInt = (bk (10 * u + k).toNat).toInt
  rw [hw k.toNat (by omega), show 10 * u.toNat + k.toNat = (10 * u + k).toNat by omega]
/-! ===== a step more, as numbers: what is scattered is what is gathered ===== -/
def wt (rb : Nat → Int32) (u so t : Int) : Int := if so = 1 ∨ so = 2 then (rb (10 * u + t).toNat).toInt else if 0 < (rb (10 * u + t).toNat).toInt then 1 else 0
def phi (so N : Int) : Int64 := if so = 1 then Int64.ofInt (N % 1000003) else if so = 2 ∨ so = 3 then Int64.ofInt N else if N = 0 then 0 else 1
/-- what comes of the places that are in P -/
noncomputable def PS (rb : Nat → Int32) (u so : Int) (A : Int → Int → Int64) (P : Int → Int → Prop) (x y : Int) : Nat → Int
  | 0 => 0
  | t + 1 => PS rb u so A P x y t + @ite Int (P (x - ddx t) (y - ddy t)) (Classical.propDecidable _) (wt rb u so t * (A (x - ddx t) (y - ddy t)).toInt) 0
theorem PS_e {rb : Nat → Int32} {u so : Int} {A : Int → Int → Int64} {P Q : Int → Int → Prop} (h : ∀ a b, (P a b ↔ Q a b) ∨ (A a b).toInt = 0) (x y : Int) : ∀ k : Nat, PS rb u so A P x y k = PS rb u so A Q x y k
  | 0 => rfl
  | k + 1 => by
    rw [PS, PS, PS_e h x y k]
    congr 1
    rcases h (x - ddx k) (y - ddy k) with q | q
    · by_cases c : P (x - ddx k) (y - ddy k)
      · rw [if_pos c, if_pos (q.mp c)]
      · rw [if_neg c, if_neg (fun z => c (q.mpr z))]
    · rw [q, Int.mul_zero, ite_self, ite_self]
theorem PS_add {rb : Nat → Int32} {u so : Int} {A : Int → Int → Int64} {P Q R : Int → Int → Prop} (h1 : ∀ a b, R a b ↔ (P a b ∨ Q a b)) (h2 : ∀ a b, P a b → ¬ Q a b) (x y : Int) : ∀ k : Nat, PS rb u so A R x y k = PS rb u so A P x y k + PS rb u so A Q x y k
  | 0 => rfl
  | k + 1 => by
    rw [PS, PS, PS, PS_add h1 h2 x y k]
    have e1 := h1 (x - ddx k) (y - ddy k)
    have e2 := h2 (x - ddx k) (y - ddy k)
    by_cases p : P (x - ddx k) (y - ddy k)
    · rw [if_pos (e1.mpr (Or.inl p)), if_pos p, if_neg (e2 p)]
      omega
    · by_cases q : Q (x - ddx k) (y - ddy k)
      · rw [if_pos (e1.mpr (Or.inr q)), if_neg p, if_pos q]
        omega
      · rw [if_neg (fun z => (e1.mp z).elim p q), if_neg p, if_neg q]
        omega
theorem PS_no {rb : Nat → Int32} {u so : Int} {A : Int → Int → Int64} {P : Int → Int → Prop} (h : ∀ a b, ¬ P a b) (x y : Int) : ∀ k : Nat, PS rb u so A P x y k = 0
  | 0 => rfl
  | k + 1 => by rw [PS, PS_no h x y k, if_neg (h _ _), Int.add_zero]
/-- all of them -/
def Sg (rb : Nat → Int32) (u so : Int) (A : Int → Int → Int64) (x y : Int) : Nat → Int
  | 0 => 0
  | t + 1 => Sg rb u so A x y t + wt rb u so t * (A (x - ddx t) (y - ddy t)).toInt
theorem PS_all {rb : Nat → Int32} {u so : Int} {A : Int → Int → Int64} {P : Int → Int → Prop} (h : ∀ a b, P a b ∨ (A a b).toInt = 0) (x y : Int) : ∀ k : Nat, PS rb u so A P x y k = Sg rb u so A x y k
  | 0 => rfl
  | k + 1 => by
    rw [PS, Sg, PS_all h x y k]
    congr 1
    rcases h (x - ddx k) (y - ddy k) with q | q
    · rw [if_pos q]
    · rw [q, Int.mul_zero, ite_self]
/-- the numbers of walks -/
def Ag (rb : Nat → Int32) (u pl so : Int) : Nat → Int → Int → Int64
  | 0, x, y => if x = (rb (10 * u + 8).toNat).toInt ∧ y = (rb (10 * u + 9).toNat).toInt then 1 else 0
  | n + 1, x, y => if insd pl x y then phi so (Sg rb u so (Ag rb u pl so n) x y 8) else 0
/-- what a number is -/
def good (so : Int) (v : Int64) : Prop := (so = 1 → 0 ≤ v.toInt ∧ v.toInt ≤ 1000002) ∧ (¬ (so = 1 ∨ so = 2 ∨ so = 3) → 0 ≤ v.toInt ∧ v.toInt ≤ 1)
theorem ofI {N : Int} (h : -9223372036854775808 ≤ N ∧ N ≤ 9223372036854775807) : (Int64.ofInt N).toInt = N := by
  first
  | exact Int64.toInt_ofInt_of_le (by omega) (by omega)
  | (rw [Int64.toInt_ofInt]; exact Int.bmod_eq_of_le (by omega) (by omega))
theorem phi_good {so N : Int} (h : ¬ (so = 1 ∨ so = 2 ∨ so = 3) → 0 ≤ N) : good so (phi so N) := by
  refine ⟨fun z => ?_, fun z => ?_⟩
  · unfold phi
    rw [if_pos z, ofI (by omega)]
    omega
  · unfold phi
    rw [if_neg (fun q => z (Or.inl q)), if_neg (fun q => z (Or.inr q))]
    split
    · exact ⟨by decide, by decide⟩
    · exact ⟨by decide, by decide⟩
theorem wth_phi {so N : Int} {v : Int64} {w : Int32} (hw : 0 < w.toInt ∧ w.toInt ≤ 9) (hv : good so v) (h0 : v.toInt ≠ 0) (hN : ¬ (so = 1 ∨ so = 2 ∨ so = 3) → 0 ≤ N) : wth (phi so N) v w so = phi so (N + (if so = 1 ∨ so = 2 then w.toInt else 1) * v.toInt) := by
  have e64 : w.toInt64.toInt = w.toInt := Int32.toInt_toInt64 w
  have e65 : w.toInt64 = Int64.ofInt w.toInt := Int64.toInt_inj.mp (by rw [ofI (by omega), e64])
  have ev : v = Int64.ofInt v.toInt := (Int64.ofInt_toInt v).symm
  by_cases c1 : so = 1
  · obtain ⟨g1, g2⟩ := hv.1 c1
    unfold wth phi
    rw [if_pos c1, if_pos c1, if_pos c1, if_pos (Or.inl c1)]
    have m0 := Int.emod_nonneg N (show (1000003 : Int) ≠ 0 by decide)
    have m1 := Int.emod_lt_of_pos N (show (0 : Int) < 1000003 by decide)
    have b1 : 0 ≤ v.toInt * w.toInt := Int.mul_nonneg g1 (by omega)
    have b2 : v.toInt * w.toInt ≤ 1000002 * 9 := Int.mul_le_mul g2 hw.2 (by omega) (by decide)
    obtain ⟨p1, -, -⟩ := L_mulp (a := v) (b := w.toInt64) (A := 1000002) (B := 9) rfl ⟨g1, g2⟩ ⟨by omega, by omega⟩ (by decide)
    rw [e64] at p1
    have a1 : (Int64.ofInt (N % 1000003) + v * w.toInt64).toInt = N % 1000003 + v.toInt * w.toInt := by
      have h := L_add (a := Int64.ofInt (N % 1000003)) (b := v * w.toInt64) rfl (by rw [ofI (by omega), p1]; omega)
      rw [h, ofI (by omega), p1]
    refine Int64.toInt_inj.mp ?_
    rw [L_rem rfl (by rw [a1]; omega), a1, ofI (by omega), Int.mul_comm w.toInt v.toInt]
    omega
  · by_cases c2 : so = 2
    · unfold wth phi
      rw [if_neg c1, if_pos c2, if_neg c1, if_pos (Or.inl c2), if_neg c1, if_pos (Or.inl c2), if_pos (Or.inr c2), Int64.ofInt_add, Int64.ofInt_mul, ← ev, ← e65, Int64.mul_comm]
    · by_cases c3 : so = 3
      · unfold wth phi
        rw [if_neg c1, if_neg c2, if_pos c3, if_neg c1, if_pos (Or.inr c3), if_neg c1, if_pos (Or.inr c3), if_neg (fun z => z.elim c1 c2), Int.one_mul, Int64.ofInt_add, ← ev]
      · have z : ¬ (so = 1 ∨ so = 2 ∨ so = 3) := fun z => z.elim c1 (fun z => z.elim c2 c3)
        have n0 := hN z
        have n1 := hv.2 z
        unfold wth phi
        rw [if_neg c1, if_neg c2, if_neg c3, if_neg c1, if_neg (show ¬ (so = 2 ∨ so = 3) from fun z => z.elim c2 c3), if_neg (show ¬ (so = 1 ∨ so = 2) from fun z => z.elim c1 c2), Int.one_mul, if_neg (show ¬ N + v.toInt = 0 by omega)]
/-- the places of the model's grid -/
def inG (x y : Int) : Prop := -65 ≤ x ∧ x ≤ 74 ∧ -65 ≤ y ∧ y ≤ 74
theorem cel_inj {x y a b : Int} (h1 : inG x y) (h2 : inG a b) (h : cel x y = cel a b) : x = a ∧ y = b := by
  unfold inG at h1 h2
  unfold cel at h
  omega
theorem cel_lt {x y : Int} (h1 : inG x y) : cel x y < 19600 := by
  unfold inG at h1
  unfold cel
  omega
/-- the grid holds what has come so far -/
def Hd (pl so : Int) (N : Int → Int → Int) (r : Nat → Int64) : Prop := ∀ x y : Int, inG x y → r (cel x y) = if insd pl x y then phi so (N x y) else 0
theorem Hd.e {pl so : Int} {N N2 : Int → Int → Int} {r : Nat → Int64} (h : Hd pl so N r) (e : ∀ x y, N x y = N2 x y) : Hd pl so N2 r := fun x y q => by rw [h x y q, e x y]
abbrev one (X Y : Int) : Int → Int → Prop := fun a b => a = X ∧ b = Y
theorem wt_iv {rb : Nat → Int32} {u so t : Int} (h : iv (rb (10 * u + t).toNat) 0 9) : 0 ≤ wt rb u so t ∧ wt rb u so t ≤ 9 := by
  unfold wt
  split
  · exact h
  · split <;> omega
/-- from one place -/
theorem gS_N {rb : Nat → Int32} {u pl so X Y : Int} {A : Int → Int → Int64} {v : Int64} {r : Nat → Int64} {N : Int → Int → Int} (hb : ∀ t : Nat, t < 8 → iv (rb (10 * u + t).toNat) 0 9) (hX : -64 ≤ X ∧ X ≤ 73 ∧ -64 ≤ Y ∧ Y ≤ 73) (ev : v = A X Y) (hv : good so v) (h0 : v.toInt ≠ 0) (hN : ¬ (so = 1 ∨ so = 2 ∨ so = 3) → ∀ x y, 0 ≤ N x y) (h : Hd pl so N r) : ∀ s : Nat, s ≤ 8 → (¬ (so = 1 ∨ so = 2 ∨ so = 3) → ∀ x y, 0 ≤ N x y + PS rb u so A (one X Y) x y s) ∧ Hd pl so (fun x y => N x y + PS rb u so A (one X Y) x y s) (gS rb u pl so X Y v s r)
  | 0, _ => ⟨fun z x y => by have := hN z x y; show 0 ≤ N x y + 0; omega, fun x y q => by rw [gS, h x y q]; show _ = if insd pl x y then phi so (N x y + 0) else 0; rw [Int.add_zero]⟩
  | s + 1, hs => by
    obtain ⟨i1, i2⟩ := gS_N hb hX ev hv h0 hN h s (by omega)
    obtain ⟨d1, d2⟩ := ddx_iv s
    obtain ⟨d3, d4⟩ := ddy_iv s
    have hw := hb s (by omega)
    have hwt := wt_iv (so := so) hw
    have hT : inG (X + ddx s) (Y + ddy s) := by unfold inG; omega
    have hc := cel_lt hT
    refine ⟨fun z x y => ?_, fun x y q => ?_⟩
    · have q1 := i1 z x y
      rw [PS]
      split
      · rename_i c
        rw [c.1, c.2, ← ev]
        have q2 := Int.mul_nonneg hwt.1 (hv.2 z).1
        omega
      · omega
    · have e := i2 x y q
      rw [gS]
      by_cases c : 0 < (rb (10 * u + s).toNat).toInt ∧ insd pl (X + ddx s) (Y + ddy s) ∧ cel (X + ddx s) (Y + ddy s) < 19600
      · rw [if_pos c]
        by_cases k : cel x y = cel (X + ddx s) (Y + ddy s)
        · obtain ⟨k1, k2⟩ := cel_inj q hT k
          subst k1; subst k2
          rw [updL_at rfl, e, if_pos c.2.1, if_pos c.2.1, wth_phi ⟨c.1, hw.2⟩ hv h0 (fun z => i1 z _ _)]
          congr 1
          show _ = N _ _ + PS rb u so A (one X Y) _ _ (s + 1)
          rw [PS, if_pos (show one X Y (X + ddx s - ddx s) (Y + ddy s - ddy s) from ⟨by omega, by omega⟩), show X + ddx s - ddx s = X by omega, show Y + ddy s - ddy s = Y by omega, ← ev]
          have ew : wt rb u so s = if so = 1 ∨ so = 2 then (rb (10 * u + s).toNat).toInt else 1 := by unfold wt; rw [if_pos c.1]
          rw [ew]
          omega
        · rw [updL_off k, e]
          show _ = if insd pl x y then phi so (N x y + PS rb u so A (one X Y) x y (s + 1)) else 0
          rw [PS, if_neg (show ¬ one X Y (x - ddx s) (y - ddy s) from fun z => k (by rw [show x = X + ddx s by have := z.1; omega, show y = Y + ddy s by have := z.2; omega])), Int.add_zero]
      · rw [if_neg c, e]
        show (if insd pl x y then phi so (N x y + PS rb u so A (one X Y) x y s) else 0) = if insd pl x y then phi so (N x y + PS rb u so A (one X Y) x y (s + 1)) else 0
        rw [PS]
        by_cases z : x - ddx s = X ∧ y - ddy s = Y
        · by_cases i : insd pl x y
          · have c2 : ¬ 0 < (rb (10 * u + s).toNat).toInt := fun w0 => c ⟨w0, by rw [← z.1, ← z.2, show x - ddx s + ddx s = x by omega, show y - ddy s + ddy s = y by omega]; exact i, hc⟩
            have ew : wt rb u so s = 0 := by unfold wt; rw [if_neg c2]; split <;> omega
            rw [ew, Int.zero_mul, ite_self, Int.add_zero]
          · rw [if_neg i, if_neg i]
        · rw [if_neg z, Int.add_zero]
/-- the places ahead of (X, Y), in a box -/
abbrev ahd (xb yb m X Y : Int) : Int → Int → Prop := fun a b => (xb ≤ a ∧ a < X ∧ yb ≤ b ∧ b < yb + m) ∨ (a = X ∧ yb ≤ b ∧ b < Y)
theorem gY_N {rb : Nat → Int32} {u pl so xb yb X : Int} {m : Nat} {A : Int → Int → Int64} {g r : Nat → Int64} (hb : ∀ t : Nat, t < 8 → iv (rb (10 * u + t).toNat) 0 9) (hX : -64 ≤ X ∧ X ≤ 73 ∧ -64 ≤ yb ∧ yb + m ≤ 74) (hg : ∀ x y, inG x y → g (cel x y) = A x y) (hA : ∀ x y, good so (A x y)) (hN : ¬ (so = 1 ∨ so = 2 ∨ so = 3) → ∀ x y, 0 ≤ PS rb u so A (ahd xb yb m X yb) x y 8) (h : Hd pl so (fun x y => PS rb u so A (ahd xb yb m X yb) x y 8) r) : ∀ j : Nat, j ≤ m → (¬ (so = 1 ∨ so = 2 ∨ so = 3) → ∀ x y, 0 ≤ PS rb u so A (ahd xb yb m X (yb + j)) x y 8) ∧ Hd pl so (fun x y => PS rb u so A (ahd xb yb m X (yb + j)) x y 8) (gY rb u pl so g X yb j r)
  | 0, _ => by
    rw [show yb + ((0 : Nat) : Int) = yb by omega]
    exact ⟨hN, h⟩
  | j + 1, hj => by
    obtain ⟨i1, i2⟩ := gY_N hb hX hg hA hN h j (by omega)
    have hP : inG X (yb + j) := by unfold inG; omega
    have step : ∀ x y, PS rb u so A (ahd xb yb m X (yb + ((j + 1 : Nat) : Int))) x y 8 = PS rb u so A (ahd xb yb m X (yb + j)) x y 8 + PS rb u so A (one X (yb + j)) x y 8 := fun x y => PS_add (fun a b => by constructor <;> (intro z; omega)) (fun a b z q => by omega) x y 8
    rw [gY]
    by_cases c : cel X (yb + j) < 19600 ∧ g (cel X (yb + j)) ≠ 0
    · rw [if_pos c]
      have e := hg _ _ hP
      obtain ⟨k1, k2⟩ := gS_N (A := A) hb (X := X) (Y := yb + j) ⟨hX.1, hX.2.1, by omega, by omega⟩ e (by rw [e]; exact hA _ _) (fun z => c.2 (Int64.toInt_inj.mp (by rw [z]; rfl))) i1 i2 8 (by omega)
      exact ⟨fun z x y => by rw [step]; exact k1 z x y, k2.e (fun x y => (step x y).symm)⟩
    · rw [if_neg c]
      have z0 : (A X (yb + j)).toInt = 0 := by
        have e := hg _ _ hP
        have q : g (cel X (yb + j)) = 0 := Decidable.byContradiction (fun q => c ⟨cel_lt hP, q⟩)
        rw [← e, q]
        rfl
      have e0 : ∀ x y, PS rb u so A (ahd xb yb m X (yb + ((j + 1 : Nat) : Int))) x y 8 = PS rb u so A (ahd xb yb m X (yb + j)) x y 8 := fun x y => PS_e (fun a b => by
        by_cases q : a = X ∧ b = yb + j
        · right; rw [q.1, q.2]; exact z0
        · left; constructor <;> (intro z; omega)) x y 8
      exact ⟨fun z x y => by rw [e0]; exact i1 z x y, i2.e (fun x y => (e0 x y).symm)⟩
theorem gX_N {rb : Nat → Int32} {u pl so xb yb : Int} {m : Nat} {A : Int → Int → Int64} {g r : Nat → Int64} (hb : ∀ t : Nat, t < 8 → iv (rb (10 * u + t).toNat) 0 9) (hX : -64 ≤ xb ∧ xb + m ≤ 74 ∧ -64 ≤ yb ∧ yb + m ≤ 74) (hg : ∀ x y, inG x y → g (cel x y) = A x y) (hA : ∀ x y, good so (A x y)) (hr : ∀ k : Nat, k < 19600 → r k = 0) : ∀ i : Nat, i ≤ m → (¬ (so = 1 ∨ so = 2 ∨ so = 3) → ∀ x y, 0 ≤ PS rb u so A (ahd xb yb m (xb + i) yb) x y 8) ∧ Hd pl so (fun x y => PS rb u so A (ahd xb yb m (xb + i) yb) x y 8) (gX rb u pl so g xb yb m i r)
  | 0, _ => by
    have e0 : ∀ x y, PS rb u so A (ahd xb yb m (xb + ((0 : Nat) : Int)) yb) x y 8 = 0 := fun x y => PS_no (fun a b z => by omega) x y 8
    refine ⟨fun _ x y => by rw [e0]; omega, fun x y q => ?_⟩
    rw [gX, hr _ (cel_lt q)]
    show (0 : Int64) = if insd pl x y then phi so (PS rb u so A (ahd xb yb m (xb + ((0 : Nat) : Int)) yb) x y 8) else 0
    rw [e0]
    have p0 : phi so 0 = 0 := by
      unfold phi
      split
      · rfl
      · split <;> rfl
    rw [p0, ite_self]
  | i + 1, hi => by
    obtain ⟨i1, i2⟩ := gX_N (pl := pl) hb hX hg hA hr i (by omega)
    obtain ⟨k1, k2⟩ := gY_N (pl := pl) hb (X := xb + i) ⟨by omega, by omega, hX.2.2.1, hX.2.2.2⟩ hg hA i1 i2 m (Nat.le_refl m)
    have e : ∀ x y, PS rb u so A (ahd xb yb m (xb + ((i + 1 : Nat) : Int)) yb) x y 8 = PS rb u so A (ahd xb yb m (xb + i) (yb + m)) x y 8 := fun x y => PS_e (fun a b => Or.inl (by constructor <;> (intro z; omega))) x y 8
    rw [gX]
    exact ⟨fun z x y => by rw [e]; exact k1 z x y, k2.e (fun x y => (e x y).symm)⟩
/-- how far walks come -/
theorem Ag_far {rb : Nat → Int32} {u pl so : Int} : ∀ (n : Nat) (x y : Int), ¬ ((rb (10 * u + 8).toNat).toInt - n ≤ x ∧ x ≤ (rb (10 * u + 8).toNat).toInt + n ∧ (rb (10 * u + 9).toNat).toInt - n ≤ y ∧ y ≤ (rb (10 * u + 9).toNat).toInt + n) → (Ag rb u pl so n x y).toInt = 0
  | 0, x, y, h => by
    rw [Ag, if_neg (fun z => h ⟨by omega, by omega, by omega, by omega⟩)]
    rfl
  | n + 1, x, y, h => by
    rw [Ag]
    split
    · have e : ∀ k : Nat, Sg rb u so (Ag rb u pl so n) x y k = 0 := fun k => by
        induction k with
        | zero => rfl
        | succ k ih =>
          have d := ddx_iv k
          have d2 := ddy_iv k
          rw [Sg, ih, Ag_far n (x - ddx k) (y - ddy k) (fun z => h ⟨by omega, by omega, by omega, by omega⟩), Int.mul_zero, Int.add_zero]
      rw [e]
      unfold phi
      split
      · rfl
      · split <;> rfl
    · rfl
theorem Ag_good {rb : Nat → Int32} {u pl so : Int} (hb : ∀ t : Nat, t < 8 → iv (rb (10 * u + t).toNat) 0 9) : ∀ (n : Nat) (x y : Int), good so (Ag rb u pl so n x y)
  | 0, x, y => by
    rw [Ag]
    split
    · exact ⟨fun _ => ⟨by decide, by decide⟩, fun _ => ⟨by decide, by decide⟩⟩
    · exact ⟨fun _ => ⟨by decide, by decide⟩, fun _ => ⟨by decide, by decide⟩⟩
  | n + 1, x, y => by
    rw [Ag]
    split
    · refine phi_good (fun z => ?_)
      have e : ∀ k : Nat, k ≤ 8 → 0 ≤ Sg rb u so (Ag rb u pl so n) x y k := fun k => by
        induction k with
        | zero => exact fun _ => Int.le_refl 0
        | succ k ih =>
          intro hk
          have := ih (by omega)
          have q := Int.mul_nonneg (wt_iv (so := so) (hb k (by omega))).1 ((Ag_good (pl := pl) hb n (x - ddx k) (y - ddy k)).2 z).1
          rw [Sg]
          omega
      exact e 8 (Nat.le_refl 8)
    · exact ⟨fun _ => ⟨by decide, by decide⟩, fun _ => ⟨by decide, by decide⟩⟩
/-- the model's grid holds the numbers of walks -/
theorem gN_A {rb : Nat → Int32} {u pl so : Int} (hb : ∀ t : Nat, t < 8 → iv (rb (10 * u + t).toNat) 0 9) (hs : iv (rb (10 * u + 8).toNat) 0 9 ∧ iv (rb (10 * u + 9).toNat) 0 9) : ∀ n : Nat, n ≤ 60 → ∀ x y : Int, inG x y → gN rb u pl so n (cel x y) = Ag rb u pl so n x y
  | 0, _, x, y, q => by
    rw [gN, Ag]
    unfold bgn
    have h9 : inG (rb (10 * u + 8).toNat).toInt (rb (10 * u + 9).toNat).toInt := by
      have := hs.1; have := hs.2
      unfold inG; omega
    by_cases c : x = (rb (10 * u + 8).toNat).toInt ∧ y = (rb (10 * u + 9).toNat).toInt
    · rw [if_pos c, if_pos (by rw [c.1, c.2])]
    · rw [if_neg c, if_neg (fun z => c (cel_inj q h9 z))]
  | n + 1, hn, x, y, q => by
    have := hs.1; have := hs.2
    rw [gN]
    unfold gof
    have m1 : (2 * (n : Int) + 1).toNat = 2 * n + 1 := by omega
    obtain ⟨-, k⟩ := gX_N (pl := pl) (A := Ag rb u pl so n) (g := gN rb u pl so n) (xb := (rb (10 * u + 8).toNat).toInt - n) (yb := (rb (10 * u + 9).toNat).toInt - n) (m := (2 * (n : Int) + 1).toNat) (r := fun _ => 0) hb ⟨by omega, by omega, by omega, by omega⟩ (gN_A hb hs n (by omega)) (Ag_good hb n) (fun _ _ => rfl) (2 * (n : Int) + 1).toNat (Nat.le_refl _)
    rw [k x y q, Ag]
    have e : PS rb u so (Ag rb u pl so n) (ahd ((rb (10 * u + 8).toNat).toInt - n) ((rb (10 * u + 9).toNat).toInt - n) (2 * (n : Int) + 1).toNat ((rb (10 * u + 8).toNat).toInt - n + (2 * (n : Int) + 1).toNat) ((rb (10 * u + 9).toNat).toInt - n)) x y 8 = Sg rb u so (Ag rb u pl so n) x y 8 := PS_all (fun a b => by
      by_cases z : (rb (10 * u + 8).toNat).toInt - n ≤ a ∧ a ≤ (rb (10 * u + 8).toNat).toInt + n ∧ (rb (10 * u + 9).toNat).toInt - n ≤ b ∧ b ≤ (rb (10 * u + 9).toNat).toInt + n
      · left; left; omega
      · right; exact Ag_far n a b z) x y 8
    show (if insd pl x y then phi so (PS rb u so (Ag rb u pl so n) _ x y 8) else 0) = _
    rw [e]
/-! ===== the class's grid: numbers ===== -/
theorem Int64_ne0 {v : Int64} (h : ¬ v = 0) : ¬ v.toInt = 0 := fun z => h (Int64.toInt_inj.mp (by rw [z]; rfl))
/-- how many steps are there ahead of the k-th -/
def usw (W : Nat → Int32) : Nat → Nat
  | 0 => 0
  | k + 1 => if (W k).toInt = 0 then usw W k else usw W k + 1
theorem usw_le (W : Nat → Int32) : ∀ k : Nat, usw W k ≤ k
  | 0 => Nat.le_refl 0
  | k + 1 => by
    have := usw_le W k
    rw [usw]
    split <;> omega
theorem usw_s {W : Nat → Int32} {i z : Int} (h : 0 ≤ i) (hz : z = i + 1) : usw W z.toNat = if (W i.toNat).toInt = 0 then usw W i.toNat else usw W i.toNat + 1 := by
  rw [show z.toNat = i.toNat + 1 by omega, usw]
theorem usw_c {W V : Nat → Int32} (h : ∀ k : Nat, k < 8 → W k = V k) : ∀ k : Nat, k ≤ 8 → usw W k = usw V k
  | 0, _ => rfl
  | k + 1, hk => by rw [usw, usw, h k (by omega), usw_c h k (by omega)]
/-- steps as bits -/
def bitw (W : Nat → Int32) : Nat → Int32
  | 0 => 0
  | k + 1 => if (W k).toInt = 0 then bitw W k else bitw W k ||| ((1 : Int32) <<< (Int32.ofInt k &&& 31))
theorem bitw_s {W : Nat → Int32} {i z : Int} (h : 0 ≤ i) (hz : z = i + 1) : bitw W z.toNat = if (W i.toNat).toInt = 0 then bitw W i.toNat else bitw W i.toNat ||| ((1 : Int32) <<< (Int32.ofInt i &&& 31)) := by
  rw [show z.toNat = i.toNat + 1 by omega, bitw, show ((i.toNat : Nat) : Int) = i by omega]
theorem bitw_c {W V : Nat → Int32} (h : ∀ k : Nat, k < 8 → W k = V k) : ∀ k : Nat, k ≤ 8 → bitw W k = bitw V k
  | 0, _ => rfl
  | k + 1, hk => by rw [bitw, bitw, h k (by omega), bitw_c h k (by omega)]
def bitc (c0 c1 c2 c3 c4 c5 c6 c7 : Bool) : Int32 := (if c0 then 1 else 0) ||| (if c1 then 2 else 0) ||| (if c2 then 4 else 0) ||| (if c3 then 8 else 0) ||| (if c4 then 16 else 0) ||| (if c5 then 32 else 0) ||| (if c6 then 64 else 0) ||| (if c7 then 128 else 0)
theorem bitc_k : ∀ c0 c1 c2 c3 c4 c5 c6 c7 : Bool, ((c5 = true ∨ c6 = true ∨ c7 = true → (bitc c0 c1 c2 c3 c4 c5 c6 c7 &&& 224).toInt ≠ 0) ∧ (c1 = true ∨ c2 = true ∨ c3 = true → (bitc c0 c1 c2 c3 c4 c5 c6 c7 &&& 14).toInt ≠ 0)) ∧ (c3 = true ∨ c4 = true ∨ c5 = true → (bitc c0 c1 c2 c3 c4 c5 c6 c7 &&& 56).toInt ≠ 0) ∧ (c0 = true ∨ c1 = true ∨ c7 = true → (bitc c0 c1 c2 c3 c4 c5 c6 c7 &&& 131).toInt ≠ 0) := by decide +kernel
theorem bit_or {a m : Int32} {p : Prop} {c : Bool} [Decidable p] (h : c = true ↔ ¬ p) : (if p then a else a ||| m) = a ||| (if c then m else 0) := by
  by_cases q : p
  · have : c = false := by cases c with
      | false => rfl
      | true => exact absurd q (h.mp rfl)
    rw [if_pos q, this]
    show a = a ||| 0
    rw [Int32.or_zero]
  · rw [if_neg q, h.mpr q]
    rfl
theorem bitw_bc (W : Nat → Int32) : bitw W 8 = bitc (decide ¬ (W 0).toInt = 0) (decide ¬ (W 1).toInt = 0) (decide ¬ (W 2).toInt = 0) (decide ¬ (W 3).toInt = 0) (decide ¬ (W 4).toInt = 0) (decide ¬ (W 5).toInt = 0) (decide ¬ (W 6).toInt = 0) (decide ¬ (W 7).toInt = 0) := by
  have e : ∀ k : Nat, (decide ¬ (W k).toInt = 0) = true ↔ ¬ (W k).toInt = 0 := fun k => decide_eq_true_iff
  have st : ∀ k : Nat, bitw W (k + 1) = if (W k).toInt = 0 then bitw W k else bitw W k ||| ((1 : Int32) <<< (Int32.ofInt k &&& 31)) := fun _ => rfl
  have h0 : bitw W 1 = bitw W 0 ||| (if (decide ¬ (W 0).toInt = 0) = true then 1 else 0) := (st 0).trans (by rw [show (1 : Int32) <<< (Int32.ofInt ((0 : Nat) : Int) &&& 31) = 1 from by decide]; exact bit_or (e 0))
  have h1 : bitw W 2 = bitw W 1 ||| (if (decide ¬ (W 1).toInt = 0) = true then 2 else 0) := (st 1).trans (by rw [show (1 : Int32) <<< (Int32.ofInt ((1 : Nat) : Int) &&& 31) = 2 from by decide]; exact bit_or (e 1))
  have h2 : bitw W 3 = bitw W 2 ||| (if (decide ¬ (W 2).toInt = 0) = true then 4 else 0) := (st 2).trans (by rw [show (1 : Int32) <<< (Int32.ofInt ((2 : Nat) : Int) &&& 31) = 4 from by decide]; exact bit_or (e 2))
  have h3 : bitw W 4 = bitw W 3 ||| (if (decide ¬ (W 3).toInt = 0) = true then 8 else 0) := (st 3).trans (by rw [show (1 : Int32) <<< (Int32.ofInt ((3 : Nat) : Int) &&& 31) = 8 from by decide]; exact bit_or (e 3))
  have h4 : bitw W 5 = bitw W 4 ||| (if (decide ¬ (W 4).toInt = 0) = true then 16 else 0) := (st 4).trans (by rw [show (1 : Int32) <<< (Int32.ofInt ((4 : Nat) : Int) &&& 31) = 16 from by decide]; exact bit_or (e 4))
  have h5 : bitw W 6 = bitw W 5 ||| (if (decide ¬ (W 5).toInt = 0) = true then 32 else 0) := (st 5).trans (by rw [show (1 : Int32) <<< (Int32.ofInt ((5 : Nat) : Int) &&& 31) = 32 from by decide]; exact bit_or (e 5))
  have h6 : bitw W 7 = bitw W 6 ||| (if (decide ¬ (W 6).toInt = 0) = true then 64 else 0) := (st 6).trans (by rw [show (1 : Int32) <<< (Int32.ofInt ((6 : Nat) : Int) &&& 31) = 64 from by decide]; exact bit_or (e 6))
  have h7 : bitw W 8 = bitw W 7 ||| (if (decide ¬ (W 7).toInt = 0) = true then 128 else 0) := (st 7).trans (by rw [show (1 : Int32) <<< (Int32.ofInt ((7 : Nat) : Int) &&& 31) = 128 from by decide]; exact bit_or (e 7))
  rw [h7, h6, h5, h4, h3, h2, h1, h0, show bitw W 0 = 0 from rfl, Int32.zero_or]
  rfl
/-- a step that is there shows in the bits -/
theorem bitw_k {W : Nat → Int32} {t : Nat} (ht : t < 8) (h : ¬ (W t).toInt = 0) : ((ddx t = -1 → (bitw W 8 &&& 224).toInt ≠ 0) ∧ (ddx t = 1 → (bitw W 8 &&& 14).toInt ≠ 0)) ∧ (ddy t = -1 → (bitw W 8 &&& 56).toInt ≠ 0) ∧ (ddy t = 1 → (bitw W 8 &&& 131).toInt ≠ 0) := by
  obtain ⟨⟨k1, k2⟩, k3, k4⟩ := bitc_k (decide ¬ (W 0).toInt = 0) (decide ¬ (W 1).toInt = 0) (decide ¬ (W 2).toInt = 0) (decide ¬ (W 3).toInt = 0) (decide ¬ (W 4).toInt = 0) (decide ¬ (W 5).toInt = 0) (decide ¬ (W 6).toInt = 0) (decide ¬ (W 7).toInt = 0)
  rw [← bitw_bc W] at k1 k2 k3 k4
  have e : ∀ k : Nat, ¬ (W k).toInt = 0 → (decide ¬ (W k).toInt = 0) = true := fun k q => decide_eq_true q
  match t, ht, h with
  | 0, _, h => exact ⟨⟨fun z => absurd z (by decide), fun z => absurd z (by decide)⟩, fun z => absurd z (by decide), fun _ => k4 (Or.inl (e 0 h))⟩
  | 1, _, h => exact ⟨⟨fun z => absurd z (by decide), fun _ => k2 (Or.inl (e 1 h))⟩, fun z => absurd z (by decide), fun _ => k4 (Or.inr (Or.inl (e 1 h)))⟩
  | 2, _, h => exact ⟨⟨fun z => absurd z (by decide), fun _ => k2 (Or.inr (Or.inl (e 2 h)))⟩, fun z => absurd z (by decide), fun z => absurd z (by decide)⟩
  | 3, _, h => exact ⟨⟨fun z => absurd z (by decide), fun _ => k2 (Or.inr (Or.inr (e 3 h)))⟩, fun _ => k3 (Or.inl (e 3 h)), fun z => absurd z (by decide)⟩
  | 4, _, h => exact ⟨⟨fun z => absurd z (by decide), fun z => absurd z (by decide)⟩, fun _ => k3 (Or.inr (Or.inl (e 4 h))), fun z => absurd z (by decide)⟩
  | 5, _, h => exact ⟨⟨fun _ => k1 (Or.inl (e 5 h)), fun z => absurd z (by decide)⟩, fun _ => k3 (Or.inr (Or.inr (e 5 h))), fun z => absurd z (by decide)⟩
  | 6, _, h => exact ⟨⟨fun _ => k1 (Or.inr (Or.inl (e 6 h))), fun z => absurd z (by decide)⟩, fun z => absurd z (by decide), fun z => absurd z (by decide)⟩
  | 7, _, h => exact ⟨⟨fun _ => k1 (Or.inr (Or.inr (e 7 h))), fun z => absurd z (by decide)⟩, fun z => absurd z (by decide), fun _ => k4 (Or.inr (Or.inr (e 7 h)))⟩
  | t + 8, ht, _ => exact absurd ht (by omega)
def wor (md : Int) (w : Int32) : Int64 := if md = 0 ∨ md = 1 then w.toInt64 else 1
theorem usw_lt {W : Nat → Int32} {t : Nat} (h0 : ¬ (W t).toInt = 0) : ∀ k : Nat, t < k → usw W t < usw W k
  | 0, h => absurd h (by omega)
  | k + 1, h => by
    rw [usw]
    by_cases c : t = k
    · subst c
      rw [if_neg h0]
      omega
    · have := usw_lt h0 k (by omega)
      split <;> omega
/-- the steps that are there, one behind the other -/
def stp (W : Nat → Int32) (md : Int) (sh : Nat → Int32) (wo : Nat → Int64) (n : Nat) : Prop := ∀ t : Nat, t < n → ¬ (W t).toInt = 0 → (sh (usw W t)).toInt = ddx t * 123 + ddy t ∧ wo (usw W t) = wor md (W t)
theorem stp_0 {W : Nat → Int32} {md : Int} {sh : Nat → Int32} {wo : Nat → Int64} : stp W md sh wo 0 := fun t ht => absurd ht (by omega)
theorem stp_no {W : Nat → Int32} {md : Int} {sh : Nat → Int32} {wo : Nat → Int64} {n : Nat} (h : stp W md sh wo n) (h0 : (W n).toInt = 0) : stp W md sh wo (n + 1) := fun t ht hw => by
  by_cases c : t = n
  · rw [c] at hw
    exact absurd h0 hw
  · exact h t (by omega) hw
theorem stp_s {W : Nat → Int32} {md : Int} {sh : Nat → Int32} {wo : Nat → Int64} {n : Nat} {x : Int32} {w : Int64} (h : stp W md sh wo n) (hx : x.toInt = ddx n * 123 + ddy n) (hw : w = wor md (W n)) : stp W md (upd sh (usw W n) x) (vp_updL wo (usw W n) w) (n + 1) := fun t ht h0 => by
  by_cases c : t = n
  · subst c
    rw [upd_at rfl, updL_at rfl]
    exact ⟨hx, hw⟩
  · have q := usw_lt h0 n (by omega)
    rw [upd_off (by omega), updL_off (by omega)]
    exact h t (by omega) h0
theorem stp_c {W V : Nat → Int32} {md : Int} {sh : Nat → Int32} {wo : Nat → Int64} (h : ∀ k : Nat, k < 8 → W k = V k) (q : stp W md sh wo 8) : stp V md sh wo 8 := fun t ht h0 => by
  rw [← usw_c h t (by omega), ← h t ht]
  exact q t ht (by rw [h t ht]; exact h0)
theorem st_ddx {i : Int32} (h : 0 ≤ i.toInt ∧ i.toInt ≤ 7) : (st_at 0 i.toInt.toNat).toInt = ddx i.toInt := by
  have e : ∀ n : Nat, n < 8 → (st_at 0 n).toInt = ddx n := by decide
  have := e i.toInt.toNat (by omega)
  rw [show ((i.toInt.toNat : Nat) : Int) = i.toInt by omega] at this
  exact this
theorem st_ddy {i : Int32} (h : 0 ≤ i.toInt ∧ i.toInt ≤ 7) : (st_at 1 i.toInt.toNat).toInt = ddy i.toInt := by
  have e : ∀ n : Nat, n < 8 → (st_at 1 n).toInt = ddy n := by decide
  have := e i.toInt.toNat (by omega)
  rw [show ((i.toInt.toNat : Nat) : Int) = i.toInt by omega] at this
  exact this
theorem ite_pq {p q : Prop} [Decidable p] [Decidable q] {T : Type} {a b : T} (h : p ↔ q) : (if p then a else b) = if q then a else b := by
  by_cases c : p
  · rw [if_pos c, if_pos (h.mp c)]
  · rw [if_neg c, if_neg (fun z => c (h.mpr z))]
theorem ia_get {G τ : Nat → Nat} {f : hM} {a tg n : Nat} {lo hi : Int} (t : TI G 9 τ f) (ha : τ a = tg) (h0 : tg ≠ 0) (hT : ∀ e, wf G 9 τ tg e → isIA G n lo hi e) : ∃ r : Nat → Int32, atp f a (eqc (.inl (G 1, n, .inl r))) ∧ ∀ j, iv (r j) lo hi := by
  obtain ⟨e, h1, h2⟩ := t.at ha h0
  obtain ⟨r, rfl, h3⟩ := hT _ h2
  exact ⟨r, ⟨_, h1, rfl⟩, h3⟩
/-- a set as a row of its own -/
def row10 (ww : Nat → Int32) (x y : Int32) (k : Nat) : Int32 := if k < 8 then ww k else if k = 8 then x else y
/-- what a set is in the book's row -/
def inrow (ww : Nat → Int32) (x y : Int32) (vb : Nat → Int32) (vu : Int) : Prop := (∀ t : Nat, t < 8 → ww t = vb (10 * vu + t).toNat) ∧ (x = vb (10 * vu + 8).toNat ∧ y = vb (10 * vu + 9).toNat) ∧ ∀ t : Nat, t < 8 → iv (vb (10 * vu + t).toNat) 0 9
theorem row10_in {ww : Nat → Int32} {x y : Int32} (h : ∀ j, iv (ww j) 0 9) : inrow ww x y (row10 ww x y) 0 := by
  have e : ∀ t : Nat, (10 * (0 : Int) + t).toNat = t := fun t => by omega
  refine ⟨fun t ht => ?_, ⟨rfl, rfl⟩, fun t ht => ?_⟩
  · rw [e]; unfold row10; rw [if_pos ht]
  · rw [e]; unfold row10; rw [if_pos ht]; exact h t
/-- what is gathered for a place -/
def gfd (sh : Nat → Int32) (wo rn : Nat → Int64) (i : Int) : Nat → Int64
  | 0 => 0
  | j + 1 => gfd sh wo rn i j + wo j * rn (i - (sh j).toInt).toNat
theorem gfd_s {sh : Nat → Int32} {wo rn : Nat → Int64} {i j z : Int} (h : 0 ≤ j) (hz : z = j + 1) : gfd sh wo rn i z.toNat = gfd sh wo rn i j.toNat + wo j.toNat * rn (i - (sh j.toNat).toInt).toNat := by
  rw [show z.toNat = j.toNat + 1 by omega, gfd]
def stl (md : Int) (v : Int64) : Int64 := if md = 0 then v - v / 1000003 * 1000003 else if md = 3 then (if (1 : Int64) < v then 1 else v) else v
/-- numbers of walks that stay where P is -/
def AgP (rb : Nat → Int32) (u : Int) (P : Int → Int → Bool) (so : Int) : Nat → Int → Int → Int64
  | 0, x, y => if x = (rb (10 * u + 8).toNat).toInt ∧ y = (rb (10 * u + 9).toNat).toInt then 1 else 0
  | n + 1, x, y => if P x y = true then phi so (Sg rb u so (AgP rb u P so n) x y 8) else 0
theorem Ag_P (rb : Nat → Int32) (u pl so : Int) : ∀ n : Nat, Ag rb u pl so n = AgP rb u (fun x y => decide (insd pl x y)) so n
  | 0 => by
    funext x y
    rw [Ag, AgP]
  | n + 1 => by
    funext x y
    rw [Ag, AgP, Ag_P rb u pl so n]
    by_cases c : insd pl x y
    · rw [if_pos c, if_pos (decide_eq_true c)]
    · rw [if_neg c, if_neg (fun z => c (of_decide_eq_true z))]
theorem Sg_0 {rb : Nat → Int32} {u so : Int} {A : Int → Int → Int64} {x y : Int} : ∀ k : Nat, (∀ t : Nat, t < k → wt rb u so t ≠ 0 → (A (x - ddx t) (y - ddy t)).toInt = 0) → Sg rb u so A x y k = 0
  | 0, _ => rfl
  | k + 1, h => by
    rw [Sg, Sg_0 k (fun t ht => h t (by omega))]
    by_cases c : wt rb u so k = 0
    · rw [c, Int.zero_mul]; rfl
    · rw [h k (by omega) c, Int.mul_zero]; rfl
theorem phi_0 {so : Int} : phi so 0 = 0 := by
  unfold phi
  split
  · rfl
  · split <;> rfl
/-- what isn't 0 came from somewhere -/
theorem AgP_from {rb : Nat → Int32} {u so : Int} {P : Int → Int → Bool} {n : Nat} {x y : Int} (h : ¬ AgP rb u P so (n + 1) x y = 0) : P x y = true ∧ ∃ t : Nat, t < 8 ∧ wt rb u so t ≠ 0 ∧ ¬ AgP rb u P so n (x - ddx t) (y - ddy t) = 0 := by
  rw [AgP] at h
  by_cases c : P x y = true
  · rw [if_pos c] at h
    refine ⟨c, Classical.byContradiction (fun q => h ?_)⟩
    rw [Sg_0 8 (fun t ht hw => Classical.byContradiction (fun q2 => q ⟨t, ht, hw, fun z => q2 (by rw [z]; rfl)⟩)), phi_0]
  · rw [if_neg c] at h
    exact absurd rfl h
theorem wt_ne {rb : Nat → Int32} {u so : Int} {t : Nat} (h : wt rb u so t ≠ 0) : ¬ (rb (10 * u + t).toNat).toInt = 0 := fun z => h (by
  unfold wt
  rw [z]
  split
  · rfl
  · rfl)
theorem AgP_far {rb : Nat → Int32} {u so : Int} {P : Int → Int → Bool} : ∀ (n : Nat) (x y : Int), ¬ AgP rb u P so n x y = 0 → (rb (10 * u + 8).toNat).toInt - n ≤ x ∧ x ≤ (rb (10 * u + 8).toNat).toInt + n ∧ (rb (10 * u + 9).toNat).toInt - n ≤ y ∧ y ≤ (rb (10 * u + 9).toNat).toInt + n
  | 0, x, y, h => by
    rw [AgP] at h
    by_cases c : x = (rb (10 * u + 8).toNat).toInt ∧ y = (rb (10 * u + 9).toNat).toInt
    · omega
    · rw [if_neg c] at h
      exact absurd rfl h
  | n + 1, x, y, h => by
    obtain ⟨-, t, -, -, q⟩ := AgP_from h
    have i := AgP_far n _ _ q
    have d1 := ddx_iv t
    have d2 := ddy_iv t
    omega
theorem AgP_good {rb : Nat → Int32} {u so : Int} {P : Int → Int → Bool} (hb : ∀ t : Nat, t < 8 → iv (rb (10 * u + t).toNat) 0 9) : ∀ (n : Nat) (x y : Int), good so (AgP rb u P so n x y)
  | 0, x, y => by
    rw [AgP]
    split
    · exact ⟨fun _ => ⟨by decide, by decide⟩, fun _ => ⟨by decide, by decide⟩⟩
    · exact ⟨fun _ => ⟨by decide, by decide⟩, fun _ => ⟨by decide, by decide⟩⟩
  | n + 1, x, y => by
    rw [AgP]
    split
    · refine phi_good (fun z => ?_)
      have e : ∀ k : Nat, k ≤ 8 → 0 ≤ Sg rb u so (AgP rb u P so n) x y k := fun k => by
        induction k with
        | zero => exact fun _ => Int.le_refl 0
        | succ k ih =>
          intro hk
          have := ih (by omega)
          have q := Int.mul_nonneg (wt_iv (so := so) (hb k (by omega))).1 ((AgP_good (P := P) hb n (x - ddx k) (y - ddy k)).2 z).1
          rw [Sg]
          omega
      exact e 8 (Nat.le_refl 8)
    · exact ⟨fun _ => ⟨by decide, by decide⟩, fun _ => ⟨by decide, by decide⟩⟩
theorem Sg_iv {rb : Nat → Int32} {u so : Int} {A : Int → Int → Int64} (hb : ∀ t : Nat, t < 8 → iv (rb (10 * u + t).toNat) 0 9) (hA : ∀ a b, good so (A a b)) (x y : Int) : ∀ k : Nat, k ≤ 8 → (so = 1 → 0 ≤ Sg rb u so A x y k ∧ Sg rb u so A x y k ≤ k * 9000018) ∧ (so = 4 → 0 ≤ Sg rb u so A x y k ∧ Sg rb u so A x y k ≤ k)
  | 0, _ => ⟨fun _ => ⟨Int.le_refl 0, (by show (0 : Int) ≤ 0 * 9000018; decide)⟩, fun _ => ⟨Int.le_refl 0, Int.le_refl 0⟩⟩
  | k + 1, hk => by
    obtain ⟨i1, i2⟩ := Sg_iv hb hA x y k (by omega)
    have hw := wt_iv (so := so) (hb k (by omega))
    obtain ⟨g1, g2⟩ := hA (x - ddx k) (y - ddy k)
    rw [Sg]
    refine ⟨fun z => ?_, fun z => ?_⟩
    · obtain ⟨j1, j2⟩ := i1 z
      obtain ⟨h1, h2⟩ := g1 z
      have q1 := Int.mul_nonneg hw.1 h1
      have q2 : wt rb u so k * (A (x - ddx k) (y - ddy k)).toInt ≤ 9 * 1000002 := Int.mul_le_mul hw.2 h2 h1 (by decide)
      omega
    · obtain ⟨j1, j2⟩ := i2 z
      obtain ⟨h1, h2⟩ := g2 (by omega)
      have e : wt rb u so k = 0 ∨ wt rb u so k = 1 := by
        unfold wt
        rw [if_neg (by omega)]
        split
        · exact Or.inr rfl
        · exact Or.inl rfl
      rcases e with e | e
      · rw [e, Int.zero_mul]; omega
      · rw [e, Int.one_mul]; omega
theorem stl_phi {md N : Int} (h0 : 0 ≤ md) (h3 : md ≤ 3) (h1 : md + 1 = 1 → 0 ≤ N ∧ N ≤ 72000144) (h4 : md + 1 = 4 → 0 ≤ N ∧ N ≤ 8) : stl md (Int64.ofInt N) = phi (md + 1) N := by
  unfold stl phi
  by_cases c0 : md = 0
  · obtain ⟨n0, n1⟩ := h1 (by omega)
    rw [if_pos c0, if_pos (show md + 1 = 1 by omega)]
    refine Int64.toInt_inj.mp ?_
    rw [L_rem rfl (by rw [ofI (by omega)]; exact n0), ofI (by omega), ofI (by omega)]
  · rw [if_neg c0, if_neg (show ¬ md + 1 = 1 by omega)]
    by_cases c3 : md = 3
    · obtain ⟨n0, n1⟩ := h4 (by omega)
      rw [if_pos c3, if_neg (show ¬ (md + 1 = 2 ∨ md + 1 = 3) by omega)]
      by_cases z : N = 0
      · subst z
        rw [if_pos (rfl : (0 : Int) = 0)]
        decide
      · rw [if_neg z]
        by_cases z1 : N = 1
        · subst z1
          decide
        · have h9 := ofI (N := N) (by omega)
          have h8 : (1 : Int64).toInt = 1 := rfl
          rw [if_pos (Int64.lt_iff_toInt_lt.mpr (by omega))]
    · rw [if_neg c3, if_pos (show md + 1 = 2 ∨ md + 1 = 3 by omega)]
/-- what is gathered is what comes from all around -/
theorem gfd_Sg {rb : Nat → Int32} {u md : Int} {A : Int → Int → Int64} {sh : Nat → Int32} {wo rn : Nat → Int64} {i x y : Int} (h0 : 0 ≤ md) (h3 : md ≤ 3) (hb : ∀ t : Nat, t < 8 → iv (rb (10 * u + t).toNat) 0 9) (hS : stp (fun t : Nat => rb (10 * u + t).toNat) md sh wo 8) (hv : ∀ t : Nat, t < 8 → rn (i - (ddx t * 123 + ddy t)).toNat = A (x - ddx t) (y - ddy t)) : ∀ k : Nat, k ≤ 8 → gfd sh wo rn i (usw (fun t : Nat => rb (10 * u + t).toNat) k) = Int64.ofInt (Sg rb u (md + 1) A x y k)
  | 0, _ => by
    rw [usw, gfd, Sg]
    rfl
  | k + 1, hk => by
    have ih := gfd_Sg h0 h3 hb hS hv k (by omega)
    rw [usw, Sg]
    by_cases c : (rb (10 * u + k).toNat).toInt = 0
    · have ew : wt rb u (md + 1) k = 0 := by
        unfold wt
        rw [c]
        split <;> rfl
      rw [if_pos c, ew, Int.zero_mul, Int.add_zero]
      exact ih
    · obtain ⟨s1, s2⟩ := hS k (by omega) c
      rw [if_neg c, gfd, ih, s1, s2, hv k (by omega), Int64.ofInt_add]
      congr 1
      have hw := hb k (by omega)
      have eA : A (x - ddx k) (y - ddy k) = Int64.ofInt (A (x - ddx k) (y - ddy k)).toInt := (Int64.ofInt_toInt _).symm
      have ew : wor md (rb (10 * u + k).toNat) = Int64.ofInt (wt rb u (md + 1) k) := by
        unfold wor wt
        by_cases d : md = 0 ∨ md = 1
        · rw [if_pos d, if_pos (by omega)]
          exact Int64.toInt_inj.mp (by rw [ofI (by omega)]; exact Int32.toInt_toInt64 _)
        · rw [if_neg d, if_neg (by omega), if_pos (by omega)]
          rfl
      rw [ew, Int64.ofInt_mul, ← eA]
/-- the pure half of a grid that is gone on with -/
def GSv (vb : Nat → Int32) (vu : Int) (P : Int → Int → Bool) (md : Int) (n : Nat) (rn rx wo : Nat → Int64) (sh : Nat → Int32) (sx sy rl rb rr rt ml mb mr mt us bi mo : Int32) : Prop :=
  ((sx = vb (10 * vu + 8).toNat ∧ sy = vb (10 * vu + 9).toNat) ∧ (∀ t : Nat, t < 8 → iv (vb (10 * vu + t).toNat) 0 9) ∧ (mo.toInt = md ∧ 0 ≤ md ∧ md ≤ 3)) ∧
  (us.toInt = ((usw (fun t : Nat => vb (10 * vu + t).toNat) 8 : Nat) : Int) ∧ bi = bitw (fun t : Nat => vb (10 * vu + t).toNat) 8) ∧
  stp (fun t : Nat => vb (10 * vu + t).toNat) md sh wo 8 ∧
  (∀ x y : Int, sx.toInt - 60 ≤ x → x ≤ sx.toInt + 60 → sy.toInt - 60 ≤ y → y ≤ sy.toInt + 60 → (P x y = true ↔ ml.toInt ≤ x ∧ x ≤ mr.toInt ∧ mb.toInt ≤ y ∧ y ≤ mt.toInt)) ∧
  ((iv sx 0 9 ∧ iv sy 0 9 ∧ iv rl (-60) 69 ∧ iv rb (-60) 69 ∧ iv rr (-60) 69 ∧ iv rt (-60) 69 ∧ iv ml (-60) 69 ∧ iv mb (-60) 69 ∧ iv mr (-60) 69 ∧ iv mt (-60) 69) ∧ (sx.toInt - 60 ≤ rl.toInt ∧ rr.toInt ≤ sx.toInt + 60 ∧ sy.toInt - 60 ≤ rb.toInt ∧ rt.toInt ≤ sy.toInt + 60) ∧ (sx.toInt - 60 ≤ ml.toInt ∧ mr.toInt ≤ sx.toInt + 60 ∧ sy.toInt - 60 ≤ mb.toInt ∧ mt.toInt ≤ sy.toInt + 60)) ∧
  (ml.toInt ≤ rl.toInt ∧ rr.toInt ≤ mr.toInt ∧ mb.toInt ≤ rb.toInt ∧ rt.toInt ≤ mt.toInt) ∧ (n ≤ 60 ∧ (n = 0 → rr.toInt ≤ sx.toInt ∧ rt.toInt ≤ sy.toInt)) ∧
  (∀ x y : Int, sx.toInt - 61 ≤ x → x ≤ sx.toInt + 61 → sy.toInt - 61 ≤ y → y ≤ sy.toInt + 61 → rn ((x - sx.toInt + 61) * 123 + (y - sy.toInt) + 61).toNat = AgP vb vu P (md + 1) n x y) ∧
  (∀ x y : Int, ¬ AgP vb vu P (md + 1) n x y = 0 → rl.toInt ≤ x ∧ x ≤ rr.toInt ∧ rb.toInt ≤ y ∧ y ≤ rt.toInt) ∧
  (∀ k : Nat, k < 15129 → ¬ inb sx sy rl rb rr rt k → rx k = 0)
theorem GSv.rn0 {vb : Nat → Int32} {vu : Int} {P : Int → Int → Bool} {md : Int} {n : Nat} {rn rx wo : Nat → Int64} {sh : Nat → Int32} {sx sy rl rb rr rt ml mb mr mt us bi mo : Int32} (h : GSv vb vu P md n rn rx wo sh sx sy rl rb rr rt ml mb mr mt us bi mo) : ∀ k : Nat, k < 15129 → ¬ inb sx sy rl rb rr rt k → rn k = 0 := fun k hk q => by
  obtain ⟨-, -, -, -, -, -, -, hv, hc, -⟩ := h
  have e := hv ((k : Int) / 123 + sx.toInt - 61) ((k : Int) % 123 + sy.toInt - 61) (by omega) (by omega) (by omega) (by omega)
  rw [show ((((k : Int) / 123 + sx.toInt - 61) - sx.toInt + 61) * 123 + (((k : Int) % 123 + sy.toInt - 61) - sy.toInt) + 61).toNat = k by omega] at e
  rw [e]
  exact Classical.byContradiction (fun z => q (hc _ _ z))
/-- the box behind a step more -/
def wdn (bi rl rb rr rt ml mb mr mt rl1 rb1 rr1 rt1 : Int32) : Prop :=
  (rl1.toInt ≤ rl.toInt ∧ ml.toInt ≤ rl1.toInt ∧ ((bi &&& 224).toInt ≠ 0 → rl1.toInt ≤ rl.toInt - 1 ∨ rl1.toInt ≤ ml.toInt)) ∧
  (rr.toInt ≤ rr1.toInt ∧ rr1.toInt ≤ mr.toInt ∧ ((bi &&& 14).toInt ≠ 0 → rr.toInt + 1 ≤ rr1.toInt ∨ mr.toInt ≤ rr1.toInt)) ∧
  (rb1.toInt ≤ rb.toInt ∧ mb.toInt ≤ rb1.toInt ∧ ((bi &&& 56).toInt ≠ 0 → rb1.toInt ≤ rb.toInt - 1 ∨ rb1.toInt ≤ mb.toInt)) ∧
  (rt.toInt ≤ rt1.toInt ∧ rt1.toInt ≤ mt.toInt ∧ ((bi &&& 131).toInt ≠ 0 → rt.toInt + 1 ≤ rt1.toInt ∨ mt.toInt ≤ rt1.toInt))
theorem GSv.step {vb : Nat → Int32} {vu : Int} {P : Int → Int → Bool} {md : Int} {n : Nat} {rn rx wo rx1 : Nat → Int64} {sh : Nat → Int32} {sx sy rl rb rr rt ml mb mr mt us bi mo rl1 rb1 rr1 rt1 : Int32} (h : GSv vb vu P md n rn rx wo sh sx sy rl rb rr rt ml mb mr mt us bi mo) (hn : n < 60) (hw : wdn bi rl rb rr rt ml mb mr mt rl1 rb1 rr1 rt1) (i1 : iv rl1 (-60) 69 ∧ iv rb1 (-60) 69 ∧ iv rr1 (-60) 69 ∧ iv rt1 (-60) 69) (hx : ∀ k : Nat, k < 15129 → rx1 k = if inb sx sy rl1 rb1 rr1 rt1 k then stl mo.toInt (gfd sh wo rn k us.toInt.toNat) else rx k) : GSv vb vu P md (n + 1) rx1 rn wo sh sx sy rl1 rb1 rr1 rt1 ml mb mr mt us bi mo := by
  have r0 := h.rn0
  obtain ⟨⟨⟨e8, e9⟩, hb, hm, m0, m3⟩, ⟨hu, hbi⟩, hS, hP, ⟨⟨j1, j2, j3, j4, j5, j6, j7⟩, g1, g2⟩, bx, -, hv, hc, hz⟩ := h
  obtain ⟨⟨w1, w2, w3⟩, ⟨w4, w5, w6⟩, ⟨w7, w8, w9⟩, w10, w11, w12⟩ := hw
  have hc1 : ∀ x y : Int, ¬ AgP vb vu P (md + 1) (n + 1) x y = 0 → rl1.toInt ≤ x ∧ x ≤ rr1.toInt ∧ rb1.toInt ≤ y ∧ y ≤ rt1.toInt := fun x y q => by
    have far := AgP_far _ _ _ q
    obtain ⟨qP, t, ht, hwt, q2⟩ := AgP_from q
    obtain ⟨⟨b1, b2⟩, b3, b4⟩ := bitw_k (W := fun t : Nat => vb (10 * vu + t).toNat) ht (wt_ne hwt)
    rw [← hbi] at b1 b2 b3 b4
    have c := hc _ _ q2
    rw [← e8, ← e9] at far
    have p := (hP x y (by omega) (by omega) (by omega) (by omega)).mp qP
    have d1 := ddx_iv t
    have d2 := ddy_iv t
    have f1 : ddx t = -1 → rl1.toInt ≤ rl.toInt - 1 ∨ rl1.toInt ≤ ml.toInt := fun z => w3 (b1 z)
    have f2 : ddx t = 1 → rr.toInt + 1 ≤ rr1.toInt ∨ mr.toInt ≤ rr1.toInt := fun z => w6 (b2 z)
    have f3 : ddy t = -1 → rb1.toInt ≤ rb.toInt - 1 ∨ rb1.toInt ≤ mb.toInt := fun z => w9 (b3 z)
    have f4 : ddy t = 1 → rt.toInt + 1 ≤ rt1.toInt ∨ mt.toInt ≤ rt1.toInt := fun z => w12 (b4 z)
    clear w3 w6 w9 w12 b1 b2 b3 b4
    omega
  refine ⟨⟨⟨e8, e9⟩, hb, hm, m0, m3⟩, ⟨hu, hbi⟩, hS, hP, ⟨⟨j1, j2, i1.1, i1.2.1, i1.2.2.1, i1.2.2.2, j7⟩, by omega, g2⟩, by omega, ⟨by omega, fun z => absurd z (by omega)⟩, fun x y x1 x2 y1 y2 => ?_, hc1, fun k hk q => r0 k hk (fun z => q (by have z := z; omega))⟩
  have hk : ((x - sx.toInt + 61) * 123 + (y - sy.toInt) + 61).toNat < 15129 := by omega
  rw [hx _ hk]
  have ek : ((((x - sx.toInt + 61) * 123 + (y - sy.toInt) + 61).toNat : Nat) : Int) = (x - sx.toInt + 61) * 123 + (y - sy.toInt) + 61 := by omega
  by_cases c : rl1.toInt ≤ x ∧ x ≤ rr1.toInt ∧ rb1.toInt ≤ y ∧ y ≤ rt1.toInt
  · rw [if_pos (show inb sx sy rl1 rb1 rr1 rt1 _ by rw [ek]; omega), AgP, if_pos ((hP x y (by omega) (by omega) (by omega) (by omega)).mpr (by omega)), ek, hu, show (((usw (fun t : Nat => vb (10 * vu + t).toNat) 8 : Nat) : Int)).toNat = usw (fun t : Nat => vb (10 * vu + t).toNat) 8 by omega, hm]
    rw [gfd_Sg (A := AgP vb vu P (md + 1) n) (x := x) (y := y) m0 m3 hb hS (fun t ht => ?_) 8 (Nat.le_refl 8)]
    · have q := Sg_iv (so := md + 1) (A := AgP vb vu P (md + 1) n) hb (AgP_good hb n) x y 8 (Nat.le_refl 8)
      exact stl_phi m0 m3 (fun z => by have := q.1 z; omega) (fun z => by have := q.2 z; omega)
    · have d1 := ddx_iv t
      have d2 := ddy_iv t
      rw [← hv (x - ddx t) (y - ddy t) (by omega) (by omega) (by omega) (by omega)]
      exact congrArg rn (by omega)
  · rw [if_neg (show ¬ inb sx sy rl1 rb1 rr1 rt1 _ from fun z => c (by rw [ek] at z; omega)), hz _ hk (fun z => c (by rw [ek] at z; omega))]
    exact Classical.byContradiction (fun z => c (hc1 x y (fun q => z q.symm)))
/-- at the start -/
theorem GSv.init {vb : Nat → Int32} {vu : Int} {P : Int → Int → Bool} {md : Int} {r0 rn rx wo : Nat → Int64} {sh : Nat → Int32} {sx sy ml mb mr mt us bi mo : Int32} (h1 : (sx = vb (10 * vu + 8).toNat ∧ sy = vb (10 * vu + 9).toNat) ∧ (∀ t : Nat, t < 8 → iv (vb (10 * vu + t).toNat) 0 9) ∧ (mo.toInt = md ∧ 0 ≤ md ∧ md ≤ 3))
  (h2 : us.toInt = ((usw (fun t : Nat => vb (10 * vu + t).toNat) 8 : Nat) : Int) ∧ bi = bitw (fun t : Nat => vb (10 * vu + t).toNat) 8)
  (h3 : stp (fun t : Nat => vb (10 * vu + t).toNat) md sh wo 8)
  (h4 : ∀ x y : Int, sx.toInt - 60 ≤ x → x ≤ sx.toInt + 60 → sy.toInt - 60 ≤ y → y ≤ sy.toInt + 60 → (P x y = true ↔ ml.toInt ≤ x ∧ x ≤ mr.toInt ∧ mb.toInt ≤ y ∧ y ≤ mt.toInt))
  (h5 : (iv sx 0 9 ∧ iv sy 0 9 ∧ iv ml (-60) 69 ∧ iv mb (-60) 69 ∧ iv mr (-60) 69 ∧ iv mt (-60) 69) ∧ (sx.toInt - 60 ≤ ml.toInt ∧ mr.toInt ≤ sx.toInt + 60 ∧ sy.toInt - 60 ≤ mb.toInt ∧ mt.toInt ≤ sy.toInt + 60) ∧ ml.toInt ≤ sx.toInt ∧ sx.toInt ≤ mr.toInt ∧ mb.toInt ≤ sy.toInt ∧ sy.toInt ≤ mt.toInt)
  (z1 : ∀ k : Nat, k < 15129 → r0 k = 0) (z2 : ∀ k : Nat, k < 15129 → rx k = 0) (hr : ∀ k : Nat, rn k = if k = 7564 then 1 else r0 k) : GSv vb vu P md 0 rn rx wo sh sx sy sx sy sx sy ml mb mr mt us bi mo := by
  obtain ⟨⟨j1, j2, j3⟩, g2, bx⟩ := h5
  refine ⟨h1, h2, h3, h4, ⟨⟨j1, j2, by omega, by omega, by omega, by omega, j3⟩, by omega, g2⟩, by omega, ⟨by omega, fun _ => ⟨Int.le_refl _, Int.le_refl _⟩⟩, fun x y x1 x2 y1 y2 => ?_, fun x y q => ?_, fun k hk _ => z2 k hk⟩
  · rw [hr, AgP, ← h1.1.1, ← h1.1.2]
    by_cases c : x = sx.toInt ∧ y = sy.toInt
    · rw [if_pos (by omega), if_pos c]
    · rw [if_neg (by omega), if_neg c, z1 _ (by omega)]
  · rw [AgP, ← h1.1.1, ← h1.1.2] at q
    by_cases c : x = sx.toInt ∧ y = sy.toInt
    · omega
    · rw [if_neg c] at q
      exact absurd rfl q
/-- the room made smaller, ahead of the first step -/
theorem GSv.close {vb : Nat → Int32} {vu : Int} {P : Int → Int → Bool} {md : Int} {rn rx wo : Nat → Int64} {sh : Nat → Int32} {sx sy rl rb rr rt ml mb mr mt us bi mo mr1 mt1 : Int32} {X Y : Int} (h : GSv vb vu P md 0 rn rx wo sh sx sy rl rb rr rt ml mb mr mt us bi mo) (h1 : mr1.toInt ≤ mr.toInt ∧ mr1.toInt ≤ X ∧ (mr1.toInt = mr.toInt ∨ mr1.toInt = X)) (h2 : mt1.toInt ≤ mt.toInt ∧ mt1.toInt ≤ Y ∧ (mt1.toInt = mt.toInt ∨ mt1.toInt = Y)) (hX : (vb (10 * vu + 8).toNat).toInt ≤ X) (hY : (vb (10 * vu + 9).toNat).toInt ≤ Y) (i1 : iv mr1 (-60) 69 ∧ iv mt1 (-60) 69) : GSv vb vu (fun x_ y_ => P x_ y_ && (decide (x_ ≤ X) && decide (y_ ≤ Y))) md 0 rn rx wo sh sx sy rl rb rr rt ml mb mr1 mt1 us bi mo := by
  obtain ⟨⟨⟨e8, e9⟩, hb, hm⟩, hu, hS, hP, ⟨⟨j1, j2, j3, j4, j5, j6, j7, j8, -, -⟩, g1, g2⟩, bx, ⟨n1, n2⟩, hv, hc, hz⟩ := h
  rw [← e8] at hX
  rw [← e9] at hY
  have n3 := n2 rfl
  refine ⟨⟨⟨e8, e9⟩, hb, hm⟩, hu, hS, fun x y x1 x2 y1 y2 => ?_, ⟨⟨j1, j2, j3, j4, j5, j6, j7, j8, i1.1, i1.2⟩, g1, by omega⟩, by omega, ⟨n1, n2⟩, fun x y x1 x2 y1 y2 => ?_, fun x y q => ?_, hz⟩
  · have p := hP x y x1 x2 y1 y2
    show (P x y && (decide (x ≤ X) && decide (y ≤ Y))) = true ↔ _
    rw [Bool.and_eq_true, Bool.and_eq_true, decide_eq_true_iff, decide_eq_true_iff, p]
    constructor
    · intro z; omega
    · intro z; omega
  · have q := hv x y x1 x2 y1 y2
    rw [AgP] at q ⊢
    exact q
  · rw [AgP] at q
    exact hc x y (by rw [AgP]; exact q)
/-! the class's grid: cells -/
def GS (G τ : Nat → Nat) (f : hM) (g rq mq : Nat) (vb : Nat → Int32) (vu : Int) (P : Int → Int → Bool) (md : Int) (n : Nat) : Prop :=
  ∃ (nq xq sq oq : Nat) (rn rx wo : Nat → Int64) (sh : Nat → Int32) (sx sy rl rb rr rt ml mb mr mt us bi mo : Int32),
  (nq ≠ xq ∧ (τ nq = 21 ∧ τ xq = 21 ∧ τ sq = 24 ∧ τ oq = 25) ∧ τ rq = 23 ∧ τ mq = 22 ∧ τ g = 20 ∧ iv us 0 8) ∧
  ((atp f g (fd 0 (.ref nq)) ∧ atp f g (fd 1 (.ref xq)) ∧ atp f g (fd 2 (.ref mq)) ∧ atp f g (fd 3 (.ref rq))) ∧ (atp f g (fd 4 (.ref sq)) ∧ atp f g (fd 5 (.ref oq)) ∧ atp f g (fd 6 (.int us)) ∧ atp f g (fd 7 (.int bi))) ∧ atp f g (fd 8 (.int mo)) ∧ atp f g (fd 9 (.int sx)) ∧ atp f g (fd 10 (.int sy))) ∧
  (atp f rq (fd 0 (.int rl)) ∧ atp f rq (fd 1 (.int rb)) ∧ atp f rq (fd 2 (.int rr)) ∧ atp f rq (fd 3 (.int rt))) ∧
  (atp f mq (fd 0 (.int ml)) ∧ atp f mq (fd 1 (.int mb)) ∧ atp f mq (fd 2 (.int mr)) ∧ atp f mq (fd 3 (.int mt))) ∧
  (atp f nq (lrw G 15129 rn) ∧ atp f xq (lrw G 15129 rx) ∧ atp f sq (eqc (.inl (G 1, 8, .inl sh))) ∧ atp f oq (lrw G 8 wo)) ∧
  GSv vb vu P md n rn rx wo sh sx sy rl rb rr rt ml mb mr mt us bi mo
theorem GS.tg {G τ : Nat → Nat} {f f1 : hM} {g rq mq tg : Nat} {vb : Nat → Int32} {vu : Int} {P : Int → Int → Bool} {md : Int} {n : Nat} (h : GS G τ f g rq mq vb vu P md n) (hq : ∀ q, τ q ≠ tg → f1 q = f q) (n0 : (20 ≠ tg ∧ 21 ≠ tg ∧ 22 ≠ tg) ∧ 23 ≠ tg ∧ 24 ≠ tg ∧ 25 ≠ tg) : GS G τ f1 g rq mq vb vu P md n := by
  obtain ⟨nq, xq, sq, oq, rn, rx, wo, sh, sx, sy, rl, rb, rr, rt, ml, mb, mr, mt, us, bi, mo, ⟨h1, ⟨t1, t2, t3, t4⟩, t5, t6, t7, iu⟩, ⟨⟨a0, a1, a2, a3⟩, ⟨a4, a5, a6, a7⟩, a8, a9, a10⟩, ⟨b0, b1, b2, b3⟩, ⟨c0, c1, c2, c3⟩, ⟨d0, d1, d2, d3⟩, v⟩ := h
  obtain ⟨⟨n1, n2, n3⟩, n4, n5, n6⟩ := n0
  exact ⟨nq, xq, sq, oq, rn, rx, wo, sh, sx, sy, rl, rb, rr, rt, ml, mb, mr, mt, us, bi, mo, ⟨h1, ⟨t1, t2, t3, t4⟩, t5, t6, t7, iu⟩, ⟨⟨a0.tg hq t7 n1, a1.tg hq t7 n1, a2.tg hq t7 n1, a3.tg hq t7 n1⟩, ⟨a4.tg hq t7 n1, a5.tg hq t7 n1, a6.tg hq t7 n1, a7.tg hq t7 n1⟩, a8.tg hq t7 n1, a9.tg hq t7 n1, a10.tg hq t7 n1⟩, ⟨b0.tg hq t5 n4, b1.tg hq t5 n4, b2.tg hq t5 n4, b3.tg hq t5 n4⟩, ⟨c0.tg hq t6 n3, c1.tg hq t6 n3, c2.tg hq t6 n3, c3.tg hq t6 n3⟩, ⟨d0.tg hq t1 n2, d1.tg hq t2 n2, d2.tg hq t3 n5, d3.tg hq t4 n6⟩, v⟩
def GSn : List Nat := [21, 24, 25, 20001, 20002, 20003, 20004, 20005, 20006, 20007, 20008, 20009, 20010, 20011, 22001, 22002, 22003, 22004, 23001, 23002, 23003, 23004]
theorem GS.fr {S : List Nat} {G τ : Nat → Nat} {f f1 : hM} {g rq mq : Nat} {vb : Nat → Int32} {vu : Int} {P : Int → Int → Bool} {md : Int} {n : Nat} (h : GS G τ f g rq mq vb vu P md n) (o : Fr S τ f f1) (n0 : ∀ k ∈ GSn, k ∉ S) : GS G τ f1 g rq mq vb vu P md n := by
  obtain ⟨nq, xq, sq, oq, rn, rx, wo, sh, sx, sy, rl, rb, rr, rt, ml, mb, mr, mt, us, bi, mo, ⟨h1, ⟨t1, t2, t3, t4⟩, t5, t6, t7, iu⟩, ⟨⟨a0, a1, a2, a3⟩, ⟨a4, a5, a6, a7⟩, a8, a9, a10⟩, ⟨b0, b1, b2, b3⟩, ⟨c0, c1, c2, c3⟩, ⟨d0, d1, d2, d3⟩, v⟩ := h
  have N : ∀ k, k ∈ GSn → k ∉ S := n0
  exact ⟨nq, xq, sq, oq, rn, rx, wo, sh, sx, sy, rl, rb, rr, rt, ml, mb, mr, mt, us, bi, mo, ⟨h1, ⟨t1, t2, t3, t4⟩, t5, t6, t7, iu⟩, ⟨⟨a0.fk o t7 (by decide) (N 20001 (by decide)), a1.fk o t7 (by decide) (N 20002 (by decide)), a2.fk o t7 (by decide) (N 20003 (by decide)), a3.fk o t7 (by decide) (N 20004 (by decide))⟩, ⟨a4.fk o t7 (by decide) (N 20005 (by decide)), a5.fk o t7 (by decide) (N 20006 (by decide)), a6.fk o t7 (by decide) (N 20007 (by decide)), a7.fk o t7 (by decide) (N 20008 (by decide))⟩, a8.fk o t7 (by decide) (N 20009 (by decide)), a9.fk o t7 (by decide) (N 20010 (by decide)), a10.fk o t7 (by decide) (N 20011 (by decide))⟩, ⟨b0.fk o t5 (by decide) (N 23001 (by decide)), b1.fk o t5 (by decide) (N 23002 (by decide)), b2.fk o t5 (by decide) (N 23003 (by decide)), b3.fk o t5 (by decide) (N 23004 (by decide))⟩, ⟨c0.fk o t6 (by decide) (N 22001 (by decide)), c1.fk o t6 (by decide) (N 22002 (by decide)), c2.fk o t6 (by decide) (N 22003 (by decide)), c3.fk o t6 (by decide) (N 22004 (by decide))⟩, ⟨d0.fr o t1 (N 21 (by decide)), d1.fr o t2 (N 21 (by decide)), d2.fr o t3 (N 24 (by decide)), d3.fr o t4 (N 25 (by decide))⟩, v⟩
theorem GS.new {G τ : Nat → Nat} {f : hM} {g rq mq q : Nat} {e : va_E} {vb : Nat → Int32} {vu : Int} {P : Int → Int → Bool} {md : Int} {n : Nat} (h : GS G τ f g rq mq vb vu P md n) (hq : f q = none) : GS G τ (hu f q e) g rq mq vb vu P md n := by
  obtain ⟨nq, xq, sq, oq, rn, rx, wo, sh, sx, sy, rl, rb, rr, rt, ml, mb, mr, mt, us, bi, mo, h1, ⟨⟨a0, a1, a2, a3⟩, ⟨a4, a5, a6, a7⟩, a8, a9, a10⟩, ⟨b0, b1, b2, b3⟩, ⟨c0, c1, c2, c3⟩, ⟨d0, d1, d2, d3⟩, v⟩ := h
  exact ⟨nq, xq, sq, oq, rn, rx, wo, sh, sx, sy, rl, rb, rr, rt, ml, mb, mr, mt, us, bi, mo, h1, ⟨⟨a0.new hq, a1.new hq, a2.new hq, a3.new hq⟩, ⟨a4.new hq, a5.new hq, a6.new hq, a7.new hq⟩, a8.new hq, a9.new hq, a10.new hq⟩, ⟨b0.new hq, b1.new hq, b2.new hq, b3.new hq⟩, ⟨c0.new hq, c1.new hq, c2.new hq, c3.new hq⟩, ⟨d0.new hq, d1.new hq, d2.new hq, d3.new hq⟩, v⟩
theorem GS.ex {G τ τ1 : Nat → Nat} {f : hM} {g rq mq : Nat} {vb : Nat → Int32} {vu : Int} {P : Int → Int → Bool} {md : Int} {n : Nat} (h : GS G τ f g rq mq vb vu P md n) (x : Ex τ τ1) : GS G τ1 f g rq mq vb vu P md n := by
  obtain ⟨nq, xq, sq, oq, rn, rx, wo, sh, sx, sy, rl, rb, rr, rt, ml, mb, mr, mt, us, bi, mo, ⟨h1, ⟨t1, t2, t3, t4⟩, t5, t6, t7, iu⟩, v⟩ := h
  exact ⟨nq, xq, sq, oq, rn, rx, wo, sh, sx, sy, rl, rb, rr, rt, ml, mb, mr, mt, us, bi, mo, ⟨h1, ⟨x.at t1 (by decide), x.at t2 (by decide), x.at t3 (by decide), x.at t4 (by decide)⟩, x.at t5 (by decide), x.at t6 (by decide), x.at t7 (by decide), iu⟩, v⟩
theorem lrw_0 {G : Nat → Nat} {f : hM} {a n : Nat} {r : Nat → Int64} {P : Int → Prop} (h : atp f a (lrw G n r)) (hz : ∀ k : Nat, k < n → ¬ P k → r k = 0) : atp f a (lw0 n P) := by
  obtain ⟨e, h1, rfl⟩ := h
  exact ⟨_, h1, _, r, rfl, hz⟩
theorem GS.gj {G τ : Nat → Nat} {f : hM} {g rq mq : Nat} {vb : Nat → Int32} {vu : Int} {P : Int → Int → Bool} {md : Int} {n : Nat} (h : GS G τ f g rq mq vb vu P md n) : GJ τ f g rq mq := by
  obtain ⟨nq, xq, sq, oq, rn, rx, wo, sh, sx, sy, rl, rb, rr, rt, ml, mb, mr, mt, us, bi, mo, ⟨h1, ⟨t1, t2, t3, t4⟩, t5, t6, t7, iu⟩, ⟨⟨a0, a1, a2, a3⟩, -, -, a9, a10⟩, b, c, ⟨d0, d1, -, -⟩, v⟩ := h
  have r0 := v.rn0
  obtain ⟨-, -, -, -, ⟨j, g1, g2⟩, -, -, -, -, hz⟩ := v
  exact ⟨sx, sy, rl, rb, rr, rt, ml, mb, mr, mt, ⟨t5, t6⟩, ⟨a3, a2, a9, a10⟩, b, c, j, g1, g2, nq, xq, h1, ⟨t1, t2⟩, a0, a1, lrw_0 d0 r0, lrw_0 d1 hz⟩
theorem GZ.gt {G τ : Nat → Nat} {f : hM} {g : Nat} {P : Int → Prop} (t : TI G 9 τ f) (h : GZ τ f g P) : ∃ (nq xq : Nat) (rn rx : Nat → Int64), nq ≠ xq ∧ (τ nq = 21 ∧ τ xq = 21) ∧ atp f g (fd 0 (.ref nq)) ∧ atp f g (fd 1 (.ref xq)) ∧ (atp f nq (lrw G 15129 rn) ∧ atp f xq (lrw G 15129 rx)) ∧ (∀ k : Nat, k < 15129 → ¬ P k → rn k = 0) ∧ ∀ k : Nat, k < 15129 → ¬ P k → rx k = 0 := by
  obtain ⟨nq, xq, h1, ⟨t1, t2⟩, a0, a1, ⟨e1, p1, c1, r1, rfl, z1⟩, e2, p2, c2, r2, rfl, z2⟩ := h
  obtain ⟨s1, u1, x1, y1⟩ := la_get t t1 (by decide) wf_21
  obtain ⟨s2, u2, x2, y2⟩ := la_get t t2 (by decide) wf_21
  rw [p1] at x1; cases x1
  rw [p2] at x2; cases x2
  cases y1; cases y2
  exact ⟨nq, xq, r1, r2, h1, ⟨t1, t2⟩, a0, a1, ⟨⟨_, p1, rfl⟩, ⟨_, p2, rfl⟩⟩, z1, z2⟩
/-- what is seen of a place -/
theorem GSv.see {vb : Nat → Int32} {vu : Int} {P : Int → Int → Bool} {md : Int} {n : Nat} {rn rx wo : Nat → Int64} {sh : Nat → Int32} {sx sy rl rb rr rt ml mb mr mt us bi mo : Int32} (h : GSv vb vu P md n rn rx wo sh sx sy rl rb rr rt ml mb mr mt us bi mo) (x y : Int) : ((rl.toInt ≤ x ∧ x ≤ rr.toInt ∧ rb.toInt ≤ y ∧ y ≤ rt.toInt) → rn ((x - sx.toInt + 61) * 123 + (y - sy.toInt) + 61).toNat = AgP vb vu P (md + 1) n x y) ∧ (¬ (rl.toInt ≤ x ∧ x ≤ rr.toInt ∧ rb.toInt ≤ y ∧ y ≤ rt.toInt) → AgP vb vu P (md + 1) n x y = 0) := by
  obtain ⟨-, -, -, -, ⟨-, g1, -⟩, -, -, hv, hc, -⟩ := h
  exact ⟨fun q => hv x y (by omega) (by omega) (by omega) (by omega), fun q => Classical.byContradiction (fun z => q (hc x y z))⟩
theorem inrow_of {ww bk : Nat → Int32} {x y : Int32} {u : Int} (hw : ∀ k : Nat, k < 8 → ww k = bk (10 * u.toNat + k)) (hx : x = bk (10 * u.toNat + 8)) (hy : y = bk (10 * u.toNat + 9)) (hb : ∀ k : Nat, k < 80 → iv (bk k) 0 9) (hu : 0 ≤ u ∧ u ≤ 7) : inrow ww x y bk u :=
  ⟨fun t ht => (hw t ht).trans (congrArg bk (by omega)), ⟨hx.trans (congrArg bk (by omega)), hy.trans (congrArg bk (by omega))⟩, fun t ht => hb _ (by omega)⟩
theorem bk9_get {G : Nat → Nat} {τ : Nat → Nat} {f : hM} (t : TI G 9 τ f) {a : Nat} (ha : τ a = 63) {rb : Nat → Int32} (h : atp f a (eqc (.inl (G 1, 81, .inl rb)))) : (∀ k : Nat, k < 80 → iv (rb k) 0 9) ∧ iv (rb 80) 0 8 := by
  obtain ⟨e, h1, h2⟩ := t.at ha (by decide)
  obtain ⟨r, rfl, h3, h4⟩ := wf_63 _ h2
  obtain ⟨e2, q1, q2⟩ := h
  rw [h1] at q1; cases q1
  cases q2
  exact ⟨h3, h4⟩
theorem bk_hb {rb : Nat → Int32} {u : Int} (h : ∀ k : Nat, k < 80 → iv (rb k) 0 9) (hu : 0 ≤ u ∧ u ≤ 7) : (∀ t : Nat, t < 8 → iv (rb (10 * u + t).toNat) 0 9) ∧ iv (rb (10 * u + 8).toNat) 0 9 ∧ iv (rb (10 * u + 9).toNat) 0 9 := ⟨fun t ht => h _ (by omega), h _ (by omega), h _ (by omega)⟩
/-- what is seen of the class's grid, as an int -/
theorem at_val {rb : Nat → Int32} {u pl : Int} {n : Nat} {x y : Int} {r : Int64} {z : Int32} (hb : ∀ t : Nat, t < 8 → iv (rb (10 * u + t).toNat) 0 9) (e : z = r.toInt32) (h : r = AgP rb u (fun x_ y_ => decide (insd pl x_ y_)) ((0 : Int32).toInt + 1) n x y) : z.toInt = (Ag rb u pl 1 n x y).toInt := by
  rw [show (0 : Int32).toInt + 1 = 1 from rfl, ← Ag_P] at h
  have g := (Ag_good (pl := pl) (so := 1) hb n x y).1 rfl
  rw [L_l2i e (by rw [h]; omega), h]
/-- what is seen of the model's grid -/
theorem gN_at {rb : Nat → Int32} {u pl so : Int} {n : Nat} {x y : Int} {r : Int64} (hb : (∀ t : Nat, t < 8 → iv (rb (10 * u + t).toNat) 0 9) ∧ iv (rb (10 * u + 8).toNat) 0 9 ∧ iv (rb (10 * u + 9).toNat) 0 9) (hn : n ≤ 60) (h : r = if -65 ≤ x ∧ x ≤ 74 ∧ -65 ≤ y ∧ y ≤ 74 then gN rb u pl so n (cel x y) else 0) : r = Ag rb u pl so n x y := by
  by_cases c : -65 ≤ x ∧ x ≤ 74 ∧ -65 ≤ y ∧ y ≤ 74
  · rw [h, if_pos c]
    exact gN_A hb.1 hb.2 n hn x y c
  · rw [h, if_neg c]
    have q := hb.2.1
    have q2 := hb.2.2
    refine Int64.toInt_inj.mp ?_
    rw [Ag_far n x y (fun z => c (by omega))]
    rfl
theorem mat_val {rb : Nat → Int32} {u pl : Int} {n : Nat} {x y : Int} {r : Int64} {z : Int32} (hb : (∀ t : Nat, t < 8 → iv (rb (10 * u + t).toNat) 0 9) ∧ iv (rb (10 * u + 8).toNat) 0 9 ∧ iv (rb (10 * u + 9).toNat) 0 9) (hn : n ≤ 60) (e : z = r.toInt32) (h : r = if -65 ≤ x ∧ x ≤ 74 ∧ -65 ≤ y ∧ y ≤ 74 then gN rb u pl (1 : Int32).toInt n (cel x y) else 0) : z.toInt = (Ag rb u pl 1 n x y).toInt := by
  have h2 := gN_at hb hn h
  rw [show (1 : Int32).toInt = 1 from rfl] at h2
  have g := (Ag_good (pl := pl) (so := 1) hb.1 n x y).1 rfl
  rw [L_l2i e (by rw [h2]; omega), h2]
/-- the first of n, n + 1, .. (k of them) at which A isn't 0 -/
def fst0 (A : Nat → Int64) : Nat → Nat → Int
  | _, 0 => -1
  | n, k + 1 => if A n = 0 then fst0 A (n + 1) k else n
theorem fst0_y {A : Nat → Int64} {n : Nat} (h1 : ¬ A n = 0) : ∀ (k j : Nat), (∀ m : Nat, j ≤ m → m < n → A m = 0) → j ≤ n → n < j + k → fst0 A j k = n
  | 0, j, _, h2, h3 => absurd h3 (by omega)
  | k + 1, j, h, h2, h3 => by
    rw [fst0]
    by_cases c : j = n
    · subst c
      rw [if_neg h1]
    · rw [if_pos (h j (Nat.le_refl j) (by omega))]
      exact fst0_y h1 k (j + 1) (fun m q1 q2 => h m (by omega) q2) (by omega) (by omega)
theorem fst0_n {A : Nat → Int64} : ∀ (k j : Nat), (∀ m : Nat, j ≤ m → m < j + k → A m = 0) → fst0 A j k = -1
  | 0, _, _ => rfl
  | k + 1, j, h => by
    rw [fst0, if_pos (h j (Nat.le_refl j) (by omega))]
    exact fst0_n k (j + 1) (fun m q1 q2 => h m (by omega) (by omega))
theorem fst_yes {A : Nat → Int64} {n : Int} (h : ∀ m : Nat, (m : Int) < n → A m = 0) (h1 : ¬ A n.toNat = 0) (hn : 0 ≤ n ∧ n ≤ 60) : n = fst0 A 0 61 := by
  rw [fst0_y h1 61 0 (fun m _ q => h m (by omega)) (by omega) (by omega)]
  omega
theorem fst_no {A : Nat → Int64} {n : Int} (h : ∀ m : Nat, (m : Int) < n → A m = 0) (hn : 61 ≤ n) : -1 = fst0 A 0 61 := (fst0_n 61 0 (fun m _ q => h m (by omega))).symm
theorem fst_no2 {A : Nat → Int64} {n : Int} (h : ∀ m : Nat, (m : Int) < n → A m = 0) (h1 : A n.toNat = 0) (hn : 60 ≤ n) : -1 = fst0 A 0 61 := (fst0_n 61 0 (fun m _ q => by
  by_cases c : (m : Int) < n
  · exact h m c
  · rw [show m = n.toNat by omega]; exact h1)).symm
theorem l64_0 {x : Int64} (h : x.toInt = 0) : x = 0 := Int64.toInt_inj.mp (by rw [h]; rfl)
theorem l64_n {x : Int64} (h : ¬ x.toInt = 0) : ¬ x = 0 := fun z => h (by rw [z]; rfl)
/-- Euclid's way -/
def eu : Nat → Int → Int → Int
  | 0, p, _ => p
  | k + 1, p, q => if q = 0 then p else eu k q (p % q)
theorem eu_0 {k : Nat} {p q : Int} (h : q = 0) : eu k p q = p := by
  cases k with
  | zero => rfl
  | succ k => rw [eu, if_pos h]
theorem eu_f : ∀ (n m : Nat) (p q : Int), 0 ≤ q → q < n → q < m → eu n p q = eu m p q
  | 0, m, p, q, h, h1, _ => absurd h1 (by omega)
  | n + 1, 0, p, q, h, _, h2 => absurd h2 (by omega)
  | n + 1, m + 1, p, q, h, h1, h2 => by
    rw [eu, eu]
    by_cases c : q = 0
    · rw [if_pos c, if_pos c]
    · rw [if_neg c, if_neg c]
      have e1 := Int.emod_nonneg p c
      have e2 := Int.emod_lt_of_pos p (show 0 < q by omega)
      exact eu_f n m _ _ e1 (by omega) (by omega)
theorem eu_s {p q : Int} (h : 0 < q) (h2 : q ≤ 60) : eu 100 p q = eu 100 q (p % q) := by
  rw [eu, if_neg (by omega)]
  have e1 := Int.emod_nonneg p (show q ≠ 0 by omega)
  have e2 := Int.emod_lt_of_pos p h
  exact eu_f 99 100 _ _ e1 (by omega) (by omega)
theorem rem_e {x y z : Int32} (e : z = x - x / y * y) (h : 0 ≤ x.toInt) : z.toInt = x.toInt % y.toInt := by
  rw [e, rem_toInt, Int.tmod_eq_emod_of_nonneg h]
/-- the common divisor of those at which A isn't 0 -/
def prf (A : Nat → Int64) : Nat → Int
  | 0 => 0
  | n + 1 => if A (n + 1) = 0 then prf A n else eu 100 (prf A n) ((n : Int) + 1)
theorem prf_s {A : Nat → Int64} {n z : Int} (h : 0 ≤ n) (hz : z = n + 1) : prf A z.toNat = if A (n.toNat + 1) = 0 then prf A n.toNat else eu 100 (prf A n.toNat) (n + 1) := by
  rw [show z.toNat = n.toNat + 1 by omega, prf, show ((n.toNat : Nat) : Int) = n by omega]
