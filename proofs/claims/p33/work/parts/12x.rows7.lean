/-! ===== sixth layer: the model's book, written and restored ===== -/
def eqc (E e : va_E) : Prop := e = E
theorem wf_b {G : Nat → Nat} {β β1 : Int} {τ : Nat → Nat} {t : Nat} {e : va_E} (ht : t ≠ 63) (h : wf G β τ t e) : wf G β1 τ t e := by
  unfold wf at h
  split at h
  all_goals first | exact (ht rfl).elim | exact h.elim | exact h
theorem TI.up19 {G : Nat → Nat} {τ : Nat → Nat} {f : hM} (t : TI G 9 τ f) : TI G 19 τ f := fun q hq => by
  obtain ⟨e, h1, h2⟩ := t q hq
  refine ⟨e, h1, ?_⟩
  by_cases h : τ q = 63
  · rw [h] at h2 ⊢
    obtain ⟨r, rfl, h3, h4⟩ := wf_63 _ h2
    exact fw_63 _ ⟨r, rfl, fun j hj => iv_w (h3 j hj) (by decide), h4⟩
  · exact wf_b h h2
theorem TI.back {G : Nat → Nat} {τ : Nat → Nat} {f0 f : hM} (t0 : TI G 9 τ f0) (t : TI G 19 τ f) (hb : ∀ q, τ q = 63 → f q = f0 q) : TI G 9 τ f := fun q hq => by
  by_cases h : τ q = 63
  · rw [hb q h]; exact t0 q hq
  · obtain ⟨e, h1, h2⟩ := t q hq
    exact ⟨e, h1, wf_b h h2⟩
theorem Fr.wk {S : List Nat} {τ : Nat → Nat} {f g : hM} (o : Fr S τ f g) : Fr (63 :: S) τ f g := ⟨fun q hq => o.1 q (fun z => hq (List.mem_cons_of_mem _ z)), fun q k v h0 hk h => o.2 q k v h0 (fun z => hk (List.mem_cons_of_mem _ z)) h⟩
theorem Fr.drop {S : List Nat} {τ : Nat → Nat} {f g : hM} (o : Fr (63 :: S) τ f g) (hb : ∀ q, τ q = 63 → g q = f q) : Fr S τ f g := ⟨fun q hq => by
  by_cases h : τ q = 63
  · exact hb q h
  · exact o.1 q (fun z => (List.mem_cons.mp z).elim h hq), fun q k v h0 hk h => o.2 q k v h0 (fun z => (List.mem_cons.mp z).elim (fun z2 => by omega) hk) h⟩
theorem bk_row {G : Nat → Nat} {τ : Nat → Nat} {f : hM} (t : TI G 9 τ f) {a : Nat} (ha : τ a = 63) : ∃ r : Nat → Int32, atp f a (eqc (.inl (G 1, 81, .inl r))) := by
  obtain ⟨e, h1, h2⟩ := t.at ha (by decide)
  obtain ⟨r, rfl, -⟩ := wf_63 _ h2
  exact ⟨r, _, h1, rfl⟩
theorem upd_back {r : Nat → Int32} {i j i2 j2 : Nat} {x y kx ky : Int32} (hi : i2 = i) (hj : j2 = j) (hx : kx = r i) (hy : ky = r j) : upd (upd (upd (upd r i x) j y) i2 kx) j2 ky = r := by
  subst hi; subst hj
  funext q
  unfold upd
  by_cases h1 : q = j2
  · rw [if_pos h1, hy, h1]
  · rw [if_neg h1]
    by_cases h2 : q = i2
    · rw [if_pos h2, hx, h2]
    · rw [if_neg h2, if_neg h1, if_neg h2]
theorem cl_eq {i j : Int32} (h : i.toInt = j.toInt) : i.toNatClampNeg = j.toNatClampNeg := congrArg Int.toNat h
/-- two cells the same -/
theorem eqc_same {f g : hM} {a : Nat} {E : va_E} (h1 : atp f a (eqc E)) (h2 : atp g a (eqc E)) : g a = f a := by
  obtain ⟨e, q1, rfl⟩ := h1
  obtain ⟨e2, q2, rfl⟩ := h2
  rw [q1, q2]
section YRows
variable {p : Program} {l : Launch} {e : Env} {R : Room} {s : State} {m : MethodId} {args : Array Value} {below : List Frame} {meth : Method} {c : Code} {H : Heap} {locs : List Loc} {cells slots : Nat} {Q : State → Prop}
variable {cc : ByteArray} {nL pc : Nat} {ls : Array Slot} {rest : List Value} {D : va_G} {G : Nat → Nat} {b0 a : Nat} {f f0 : hM} {own : String} {H0 : Heap} {τ : Nat → Nat} {β : Int} {tg : Nat} {S : List Nat}
theorem t_bkr (C : hC p s m args meth c cc nL own D G b0) (h : hw D b0 H0 f H locs) (t : TI G β τ f) (ha : τ a = 63) {r : Nat → Int32} (hr : atp f a (eqc (.inl (G 1, 81, .inl r)))) {i : Int32} {l1 h1 : Int} (ii : iv i l1 h1) (hin : 0 ≤ l1 ∧ h1 < 80) (hdg : decode cc pc = .ok (.iaload, 1)) (kk : ∀ x : Int32, x = r i.toNatClampNeg → iv x 0 β → W p l e R s m args below meth c H locs cells slots Q (F0 m (pc + 1) ls (.int x :: rest))) : W p l e R s m args below meth c H locs cells slots Q (F0 m pc ls (.int i :: .ref a :: rest)) := by
  obtain ⟨x, h1, h2⟩ := t.at ha (by decide)
  obtain ⟨r2, rfl, h3, h4⟩ := wf_63 _ h2
  obtain ⟨e, q1, q2⟩ := hr
  rw [h1] at q1; cases q1
  cases q2
  exact q_iald C h h1 (iv_in ii (by omega)) hdg (kk _ rfl (h3 _ (iv_cl ii (by omega))))
theorem t_bkw (C : hC p s m args meth c cc nL own D G b0) (h : hw D b0 H0 f H locs) (t : TI G 19 τ f) (o : Fr S τ f0 f) (ha : τ a = 63) (hS : 63 ∈ S) {r : Nat → Int32} (hr : atp f a (eqc (.inl (G 1, 81, .inl r)))) {i x : Int32} {l1 h1 : Int} (ii : iv i l1 h1) (hin : 0 ≤ l1 ∧ h1 < 80) (hx : iv x 0 19) (hdg : decode cc pc = .ok (.iastore, 1)) (kk : ∀ (f1 : hM) (H1 : Heap) (locs1 : List Loc), hw D b0 H0 f1 H1 locs1 → TI G 19 τ f1 → Fr S τ f0 f1 → (∀ q, τ q ≠ 63 → f1 q = f q) → (∀ q, q ≠ a → f1 q = f q) → atp f1 a (eqc (.inl (G 1, 81, .inl (upd r i.toNatClampNeg x)))) → W p l e R s m args below meth c H1 locs1 cells slots Q (F0 m (pc + 1) ls rest)) : W p l e R s m args below meth c H locs cells slots Q (F0 m pc ls (.int x :: .int i :: .ref a :: rest)) := by
  obtain ⟨y, h1, h2⟩ := t.at ha (by decide)
  obtain ⟨r2, rfl, h3, h4⟩ := wf_63 _ h2
  obtain ⟨e, q1, q2⟩ := hr
  rw [h1] at q1; cases q1
  cases q2
  have hn : i.toNatClampNeg < 80 := iv_cl ii (by omega)
  refine q_iast C h h1 (iv_in ii (by omega)) hdg (fun H1 locs1 h9 => kk _ H1 locs1 h9 (t.up ha (fw_63 _ ⟨_, rfl, fun j hj => ?_, ?_⟩)) (o.upA ha hS h1) (hu_tg ha _) (fun q hq => hu_ne hq) ⟨_, hu_self _ _ _, rfl⟩)
  · unfold upd
    split
    · exact hx
    · exact h3 j hj
  · unfold upd
    rw [if_neg (by omega)]; exact h4
end YRows
