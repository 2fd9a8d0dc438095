/-! ===== the tape as it is read ===== -/
def tb (rt : Nat → Int32) (k : Nat) : Int := (rt k).toInt
def rnd (lo hi : Int) (B : Nat → Int) (L : Nat) : Nat → Nat → Nat
  | 0, i => i
  | n + 1, i => if i < L ∧ lo ≤ B i ∧ B i ≤ hi then rnd lo hi B L n (i + 1) else i
/-- where a run of such bytes ends -/
def rn (lo hi : Int) (B : Nat → Int) (L i : Nat) : Nat := rnd lo hi B L (L - i) i
theorem rn_s {lo hi : Int} {B : Nat → Int} {L i j : Nat} (h : i < L ∧ lo ≤ B i ∧ B i ≤ hi) (hj : j = i + 1) : rn lo hi B L j = rn lo hi B L i := by
  subst hj
  unfold rn
  rw [show L - i = (L - (i + 1)) + 1 by omega, rnd, if_pos h]
theorem rn_e {lo hi : Int} {B : Nat → Int} {L i : Nat} (h : ¬ (i < L ∧ lo ≤ B i ∧ B i ≤ hi)) : rn lo hi B L i = i := by
  unfold rn
  cases L - i with
  | zero => rfl
  | succ n => rw [rnd, if_neg h]
/-- where a part ends -/
def te (B : Nat → Int) (L i : Nat) : Nat := if 97 ≤ B i ∧ B i ≤ 122 then rn 97 122 B L (i + 1) else if 48 ≤ B i ∧ B i ≤ 57 then rn 48 57 B L (i + 1) else i + 1
theorem and255 (x : Int32) : (x &&& 255).toInt = x.toInt % 256 := by
  have h0 : (x &&& 255).toBitVec.toNat = x.toBitVec.toNat % 256 := by
    show (x.toBitVec &&& 255#32).toNat = _
    rw [BitVec.toNat_and]
    exact Nat.and_two_pow_sub_one_eq_mod _ 8
  rw [toInt_small h0 (Nat.mod_lt _ (by decide))]
  have e : x.toInt = x.toBitVec.toInt := rfl
  rw [BitVec.toInt_eq_toNat_bmod, Int.bmod_def] at e
  have hl := x.toBitVec.isLt
  split at e <;> omega
theorem sg_mod {b : Int} (h : 0 ≤ b ∧ b ≤ 255) : sg b % 256 = b := by
  unfold sg; split <;> omega
