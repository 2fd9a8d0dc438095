/-! ===== the class's acts, as numbers ===== -/
theorem jo_row {bk R w1 w2 : Nat → Int32} {u v : Int} (hR : ∀ k, k < 8 → R k = w1 k + w2 k) (h1 : ∀ k, k < 8 → w1 k = bk (10 * u.toNat + k)) (h2 : ∀ k, k < 8 → w2 k = bk (10 * v.toNat + k)) (hu : 0 ≤ u) (hv : 0 ≤ v) : ∀ k, k < 8 → R k = jo bk u v k := fun k hk => by
  unfold jo
  rw [if_pos hk, hR k hk, h1 k hk, h2 k hk, show (10 * u + (k : Int)).toNat = 10 * u.toNat + k by omega, show (10 * v + (k : Int)).toNat = 10 * v.toNat + k by omega]
theorem jo_8 {bk : Nat → Int32} {u v : Int} (hu : 0 ≤ u) : jo bk u v 8 = bk (10 * u.toNat + 8) := by
  unfold jo; rw [if_neg (by decide), show (10 * u + ((8 : Nat) : Int)).toNat = 10 * u.toNat + 8 by omega]
theorem jo_9 {bk : Nat → Int32} {u v : Int} (hu : 0 ≤ u) : jo bk u v 9 = bk (10 * u.toNat + 9) := by
  unfold jo; rw [if_neg (by decide), show (10 * u + ((9 : Nat) : Int)).toNat = 10 * u.toNat + 9 by omega]
theorem jo_dig {bk R w1 w2 : Nat → Int32} {u v : Int} (hR : ∀ k, k < 8 → R k = w1 k + w2 k) (h1 : ∀ k, k < 8 → w1 k = bk (10 * u.toNat + k)) (h2 : ∀ k, k < 8 → w2 k = bk (10 * v.toNat + k)) (hu : 0 ≤ u ∧ u ≤ 7) (hv : 0 ≤ v ∧ v ≤ 7) (hb9 : ∀ k : Nat, k < 80 → iv (bk k) 0 9) :
    (∀ s : Nat, s < 8 → iv (R s) 0 9) ↔ (∀ s : Nat, s < 8 → (bk (10 * u + s).toNat).toInt + (bk (10 * v + s).toNat).toInt ≤ 9) := by
  have key : ∀ s : Nat, s < 8 → (R s).toInt = (bk (10 * u + s).toNat).toInt + (bk (10 * v + s).toNat).toInt ∧ 0 ≤ (R s).toInt := fun s hs => by
    have e1 := hb9 (10 * u.toNat + s) (by omega)
    have e2 := hb9 (10 * v.toNat + s) (by omega)
    rw [hR s hs, h1 s hs, h2 s hs, iv_addE e1 e2 (by decide), show (10 * u + (s : Int)).toNat = 10 * u.toNat + s by omega, show (10 * v + (s : Int)).toNat = 10 * v.toNat + s by omega]
    exact ⟨rfl, by omega⟩
  constructor
  · intro h s hs
    have h1 := h s hs
    have h2 := key s hs
    omega
  · intro h s hs
    have h1 := h s hs
    have h2 := key s hs
    exact ⟨by omega, by omega⟩
