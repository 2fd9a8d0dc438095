theorem no_null {f : hM} {a k q : Nat} (h1 : atp f a (fd k (va_rf none))) (h2 : atp f a (fd k (.ref q))) : False := by
  obtain ⟨e, q1, ci, fs, rfl, q2⟩ := h1
  obtain ⟨e2, r1, ci2, fs2, rfl, r2⟩ := h2
  rw [q1] at r1; cases r1
  rw [q2] at r2; cases r2
