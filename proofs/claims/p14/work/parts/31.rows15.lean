/-! ===== a set that is told ===== -/
def tl (R : Int × (Nat → Int) × Int × Int) (k : Nat) : Int32 := Int32.ofInt (if k < 8 then R.2.1 k else if k = 8 then R.2.2.1 else R.2.2.2)
theorem of_toInt {x : Int32} {v : Int} (h : x.toInt = v) : x = Int32.ofInt v := by rw [← h, Int32.ofInt_toInt]
theorem tl_row {R : Int × (Nat → Int) × Int × Int} {rd : Nat → Int32} (h1 : ∀ k : Nat, k < 8 → (rd k).toInt = R.2.1 k) (h8 : (rd 8).toInt = R.2.2.1) (h9 : (rd 9).toInt = R.2.2.2) : ∀ k : Nat, k < 10 → rd k = tl R k := fun k hk => by
  unfold tl
  rcases (by omega : k < 8 ∨ k = 8 ∨ k = 9) with q | q | q
  · rw [if_pos q]; exact of_toInt (h1 k q)
  · subst q; rw [if_neg (by decide), if_pos rfl]; exact of_toInt h8
  · subst q; rw [if_neg (by decide), if_neg (by decide)]; exact of_toInt h9
def tw (w : Nat → Int32) (x y : Int32) (k : Nat) : Int32 := if k < 8 then w k else if k = 8 then x else y
theorem tw_row {R : Int × (Nat → Int) × Int × Int} {w : Nat → Int32} {x y : Int32} (h1 : ∀ k : Nat, k < 8 → (w k).toInt = R.2.1 k) (h8 : x.toInt = R.2.2.1) (h9 : y.toInt = R.2.2.2) : ∀ k : Nat, k < 10 → tw w x y k = tl R k :=
  tl_row (fun k hk => by unfold tw; rw [if_pos hk]; exact h1 k hk) h8 h9
theorem row_iv14 {G : Nat → Nat} {τ : Nat → Nat} {f : hM} (t : TI G 9 τ f) {a : Nat} (ha : τ a = 14) {r : Nat → Int32} (hr : atp f a (eqc (.inl (G 1, 8, .inl r)))) : ∀ j, iv (r j) 0 9 := by
  obtain ⟨x, h1, h2⟩ := t.at ha (by decide)
  obtain ⟨r2, rfl, h3⟩ := wf_14 _ h2
  obtain ⟨e, q1, q2⟩ := hr
  rw [h1] at q1; cases q1
  cases q2
  exact h3
theorem SO.fx {G : Nat → Nat} {τ : Nat → Nat} {f f1 : hM} {q : Nat} {v : Nat → Int32} {A : List Nat} (h : SO G τ f q v) (o : FX A f f1) (hA : ∀ a ∈ A, τ a ≠ 1 ∧ τ a ≠ 2) : SO G τ f1 q v := by
  obtain ⟨h1, wq, w, h2, h3, h4, h5, h6, h7⟩ := h
  have n1 : q ∉ A := fun z => (hA q z).1 h1
  have n2 : wq ∉ A := fun z => (hA wq z).2 h2
  exact ⟨h1, wq, w, h2, h3.fx o n1, h4.fx o n2, h5, h6.fx o n1, h7.fx o n1⟩
theorem SO.ex {G : Nat → Nat} {τ τ1 : Nat → Nat} {f : hM} {q : Nat} {v : Nat → Int32} (h : SO G τ f q v) (x : Ex τ τ1) : SO G τ1 f q v := by
  obtain ⟨h1, wq, w, h2, h3, h4, h5, h6, h7⟩ := h
  exact ⟨x.at h1 (by decide), wq, w, x.at h2 (by decide), h3, h4, h5, h6, h7⟩
theorem fa_nil {P : Nat → Prop} : ∀ a ∈ ([] : List Nat), P a := fun _ h => absurd h List.not_mem_nil
theorem fa_cons {P : Nat → Prop} {x : Nat} {l : List Nat} (h : P x) (hl : ∀ a ∈ l, P a) : ∀ a ∈ x :: l, P a := List.forall_mem_cons.mpr ⟨h, hl⟩
theorem tg12 {τ : Nat → Nat} {a t : Nat} (h : τ a = t) (h1 : t ≠ 1 ∧ t ≠ 2) : τ a ≠ 1 ∧ τ a ≠ 2 := by rw [h]; exact h1
