/-! ===== seventh layer: the book's size, a set's weight ===== -/
theorem t_bkr80 {p : Program} {l : Launch} {e : Env} {R : Room} {s : State} {m : MethodId} {args : Array Value} {below : List Frame} {meth : Method} {c : Code} {H : Heap} {locs : List Loc} {cells slots : Nat} {Q : State → Prop} {cc : ByteArray} {nL pc : Nat} {ls : Array Slot} {rest : List Value} {D : va_G} {G : Nat → Nat} {b0 a : Nat} {f : hM} {own : String} {H0 : Heap} {τ : Nat → Nat} {β : Int} (C : hC p s m args meth c cc nL own D G b0) (h : hw D b0 H0 f H locs) (t : TI G β τ f) (ha : τ a = 63) {r : Nat → Int32} (hr : atp f a (eqc (.inl (G 1, 81, .inl r)))) (hdg : decode cc pc = .ok (.iaload, 1)) (kk : ∀ x : Int32, x.toInt = (r 80).toInt → iv x 0 8 → W p l e R s m args below meth c H locs cells slots Q (F0 m (pc + 1) ls (.int x :: rest))) : W p l e R s m args below meth c H locs cells slots Q (F0 m pc ls (.int 80 :: .ref a :: rest)) := by
  obtain ⟨x, h1, h2⟩ := t.at ha (by decide)
  obtain ⟨r2, rfl, h3, h4⟩ := wf_63 _ h2
  obtain ⟨e, q1, q2⟩ := hr
  rw [h1] at q1; cases q1
  cases q2
  exact q_iald C h h1 (by unfold vp_in; decide) hdg (kk _ rfl h4)
