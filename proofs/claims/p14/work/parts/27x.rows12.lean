/-! ===== bytes that come to the tape ===== -/
def bt (v : Int32) (k : Nat) : Int := (((v.toBitVec.toNat / 2 ^ k) % 256 : Nat) : Int)
def nbq (v : Int32) (k : Nat) : Int := if bt v k = 0 then 0 else 1
def nb (v : Int32) : Int := nbq v 24 + nbq v 16 + nbq v 8 + nbq v 0
theorem nbq_c (v : Int32) (k : Nat) : (bt v k = 0 → nbq v k = 0) ∧ (bt v k ≠ 0 → nbq v k = 1) ∧ 0 ≤ nbq v k ∧ nbq v k ≤ 1 := by
  unfold nbq
  split
  · rename_i h; exact ⟨fun _ => rfl, fun z => (z h).elim, by decide, by decide⟩
  · rename_i h; exact ⟨fun z => (h z).elim, fun _ => rfl, by decide, by decide⟩
theorem nb_iv (v : Int32) : 0 ≤ nb v ∧ nb v ≤ 4 := by
  have h1 := nbq_c v 24
  have h2 := nbq_c v 16
  have h3 := nbq_c v 8
  have h4 := nbq_c v 0
  unfold nb; omega
theorem toInt_small {x : Int32} {n : Nat} (h : x.toBitVec.toNat = n) (hn : n < 256) : x.toInt = (n : Int) := by
  have e : x.toInt = x.toBitVec.toInt := rfl
  rw [BitVec.toInt_eq_toNat_bmod, Int.bmod_def, h] at e
  rw [e]; split <;> omega
theorem bv_hi : ∀ i : Nat, i < 32 → 8 ≤ i → (255#32).getLsbD i = false := by decide
theorem bv_ss (x : BitVec 32) (n : Nat) (h : n ≤ 24) : (x.sshiftRight n &&& 255#32) = (x >>> n &&& 255#32) := by
  apply BitVec.eq_of_getLsbD_eq
  intro i hi
  rw [BitVec.getLsbD_and, BitVec.getLsbD_and]
  by_cases h8 : i < 8
  · have e : (x.sshiftRight n).getLsbD i = (x >>> n).getLsbD i := by
      rw [BitVec.getLsbD_sshiftRight, BitVec.getLsbD_ushiftRight]
      have h1 : n + i < 32 := by omega
      simp [hi, h1]
    rw [e]
  · rw [bv_hi i hi (by omega), Bool.and_false, Bool.and_false]
theorem bv_nat (x : BitVec 32) (n : Nat) : (x >>> n &&& 255#32).toNat = x.toNat / 2 ^ n % 256 := by
  rw [BitVec.toNat_and, BitVec.toNat_ushiftRight, Nat.shiftRight_eq_div_pow]
  exact Nat.and_two_pow_sub_one_eq_mod _ 8
theorem bt_s {v K : Int32} (n : Nat) (h : n ≤ 24) (e : (v >>> (K &&& 31)).toBitVec = v.toBitVec.sshiftRight n) : ((v >>> (K &&& 31)) &&& 255).toInt = bt v n := by
  refine toInt_small (n := v.toBitVec.toNat / 2 ^ n % 256) ?_ (Nat.mod_lt _ (by decide))
  show ((v >>> (K &&& 31)).toBitVec &&& 255#32).toNat = _
  rw [e, bv_ss _ _ h, bv_nat]
theorem bt_u {v K : Int32} (n : Nat) (e : ((v.toUInt32 >>> (K.toUInt32 &&& Int32.toUInt32 31)).toInt32).toBitVec = v.toBitVec >>> n) : (((v.toUInt32 >>> (K.toUInt32 &&& Int32.toUInt32 31)).toInt32) &&& 255).toInt = bt v n := by
  refine toInt_small (n := v.toBitVec.toNat / 2 ^ n % 256) ?_ (Nat.mod_lt _ (by decide))
  show (((v.toUInt32 >>> (K.toUInt32 &&& Int32.toUInt32 31)).toInt32).toBitVec &&& 255#32).toNat = _
  rw [e, bv_nat]
theorem bt_s24 (v : Int32) : ((v >>> ((24 : Int32) &&& 31)) &&& 255).toInt = bt v 24 := bt_s 24 (by decide) rfl
theorem bt_s16 (v : Int32) : ((v >>> ((16 : Int32) &&& 31)) &&& 255).toInt = bt v 16 := bt_s 16 (by decide) rfl
theorem bt_s8 (v : Int32) : ((v >>> ((8 : Int32) &&& 31)) &&& 255).toInt = bt v 8 := bt_s 8 (by decide) rfl
theorem bt_s0 (v : Int32) : ((v >>> ((0 : Int32) &&& 31)) &&& 255).toInt = bt v 0 := bt_s 0 (by decide) rfl
theorem bt_u24 (v : Int32) : (((v.toUInt32 >>> ((24 : Int32).toUInt32 &&& Int32.toUInt32 31)).toInt32) &&& 255).toInt = bt v 24 := bt_u 24 rfl
theorem bt_u16 (v : Int32) : (((v.toUInt32 >>> ((16 : Int32).toUInt32 &&& Int32.toUInt32 31)).toInt32) &&& 255).toInt = bt v 16 := bt_u 16 rfl
theorem bt_u8 (v : Int32) : (((v.toUInt32 >>> ((8 : Int32).toUInt32 &&& Int32.toUInt32 31)).toInt32) &&& 255).toInt = bt v 8 := bt_u 8 rfl
theorem bt_u0 (v : Int32) : (((v.toUInt32 >>> ((0 : Int32).toUInt32 &&& Int32.toUInt32 31)).toInt32) &&& 255).toInt = bt v 0 := bt_u 0 rfl
/-- a byte as the model keeps it -/
def sg (b : Int) : Int := if b < 128 then b else b - 256
theorem sg_b {z : Int32} (h : iv z 0 255) : (z.toInt8.toInt32.toInt8.toInt32).toInt = sg z.toInt := by
  have e1 : z.toInt8.toInt32.toInt8 = z.toInt8 := by simp
  rw [e1, Int8.toInt_toInt32, Int32.toInt_toInt8, Int.bmod_def]
  unfold sg
  split <;> split <;> omega
/-- a byte comes -/
def a1 (s : Int × (Nat → Int)) (b : Int) : Int × (Nat → Int) := if b = 0 then s else (s.1 + 1, fun k => if (k : Int) = s.1 then b else s.2 k)
def a4 (s : Int × (Nat → Int)) (v : Int32) : Int × (Nat → Int) := a1 (a1 (a1 (a1 s (bt v 24)) (bt v 16)) (bt v 8)) (bt v 0)
theorem a1_1 (s : Int × (Nat → Int)) (v : Int32) (k : Nat) : (a1 s (bt v k)).1 = s.1 + nbq v k := by
  unfold a1 nbq
  split
  · omega
  · rfl
theorem a4_1 (s : Int × (Nat → Int)) (v : Int32) : (a4 s v).1 = s.1 + nb v := by
  unfold a4 nb; rw [a1_1, a1_1, a1_1, a1_1]; omega
theorem a4_p (s : Int × (Nat → Int)) (v : Int32) {L : Int} (h : L = s.1 + nb v) : (L, (a4 s v).2) = a4 s v := by
  rw [h, ← a4_1]
