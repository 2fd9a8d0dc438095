/-! ===== fifth layer: cells that are made ===== -/
theorem atp.new {f : hM} {a q : Nat} {e : va_E} {P : va_E → Prop} (h : atp f a P) (hq : f q = none) : atp (hu f q e) a P := by
  obtain ⟨x, h1, h2⟩ := h
  exact ⟨x, by rw [hu_ne (fun z => by rw [z, hq] at h1; cases h1)]; exact h1, h2⟩
theorem GJ.new {τ : Nat → Nat} {f : hM} {a rq mq q : Nat} {e : va_E} (h : GJ τ f a rq mq) (hq : f q = none) : GJ τ (hu f q e) a rq mq := by
  obtain ⟨sx, sy, rl, rb, rr, rt, ml, mb, mr, mt, ⟨q1, q2⟩, ⟨a1, a2, a3, a4⟩, ⟨b1, b2, b3, b4⟩, ⟨c1, c2, c3, c4⟩, h5⟩ := h
  exact ⟨sx, sy, rl, rb, rr, rt, ml, mb, mr, mt, ⟨q1, q2⟩, ⟨a1.new hq, a2.new hq, a3.new hq, a4.new hq⟩, ⟨b1.new hq, b2.new hq, b3.new hq, b4.new hq⟩, ⟨c1.new hq, c2.new hq, c3.new hq, c4.new hq⟩, h5⟩
theorem GJ.ex {τ τ1 : Nat → Nat} {f : hM} {a rq mq : Nat} (h : GJ τ f a rq mq) (x : Ex τ τ1) : GJ τ1 f a rq mq := by
  obtain ⟨sx, sy, rl, rb, rr, rt, ml, mb, mr, mt, ⟨q1, q2⟩, h5⟩ := h
  exact ⟨sx, sy, rl, rb, rr, rt, ml, mb, mr, mt, ⟨x.at q1 (by decide), x.at q2 (by decide)⟩, h5⟩
/-- a reference or null in a field -/
theorem t_fopt {G : Nat → Nat} {β : Int} {τ : Nat → Nat} {f : hM} (t : TI G β τ f) {a tg tq ci k : Nat} {tys : List (Nat × Int × Int)} {hi : Int} (ha : τ a = tg) (h0 : tg ≠ 0) (hT : ∀ e, wf G β τ tg e → wo τ ci tys e) (hk : tys[k]? = some (3, (tq : Int), hi)) : ∃ o : Option Nat, (∀ z, o = some z → τ z = tq) ∧ atp f a (fd k (va_rf o)) := by
  obtain ⟨x, h1, h2⟩ := t.at ha h0
  obtain ⟨fs, rfl, -, h3⟩ := hT _ h2
  obtain ⟨v, e1, q, rfl, e2⟩ := h3 k _ hk
  exact ⟨q, fun z hz => (e2 z hz).trans (Int.toNat_natCast tq), _, h1, _, _, rfl, e1⟩
theorem va_rfcat (o : Option Nat) : (va_rf o).category = 1 := by cases o <;> rfl
