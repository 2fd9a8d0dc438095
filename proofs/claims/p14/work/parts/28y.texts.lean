/-! ===== the reader, as the class has it ===== -/
theorem rnd_ge {lo hi : Int} {B : Nat → Int} {L : Nat} : ∀ (n i : Nat), i ≤ rnd lo hi B L n i
  | 0, i => Nat.le_refl i
  | n + 1, i => by
    rw [rnd]
    split
    · exact Nat.le_trans (Nat.le_succ i) (rnd_ge n (i + 1))
    · exact Nat.le_refl i
theorem rnd_le {lo hi : Int} {B : Nat → Int} {L : Nat} : ∀ (n i : Nat), i ≤ L → rnd lo hi B L n i ≤ L
  | 0, i, h => h
  | n + 1, i, h => by
    rw [rnd]
    split
    · rename_i q; exact rnd_le n (i + 1) q.1
    · exact h
theorem rn_ge {lo hi : Int} {B : Nat → Int} {L : Nat} (i : Nat) : i ≤ rn lo hi B L i := rnd_ge _ _
theorem rn_le {lo hi : Int} {B : Nat → Int} {L i : Nat} (h : i ≤ L) : rn lo hi B L i ≤ L := rnd_le _ _ h
theorem rnd_stop {lo hi : Int} {B : Nat → Int} {L : Nat} : ∀ (n i : Nat), L ≤ i + n → ¬ (rnd lo hi B L n i < L ∧ lo ≤ B (rnd lo hi B L n i) ∧ B (rnd lo hi B L n i) ≤ hi)
  | 0, i, h => by rw [rnd]; omega
  | n + 1, i, h => by
    rw [rnd]
    split
    · exact rnd_stop n (i + 1) (by omega)
    · rename_i q; exact q
theorem rn_stop {lo hi : Int} {B : Nat → Int} {L : Nat} (i : Nat) : ¬ (rn lo hi B L i < L ∧ lo ≤ B (rn lo hi B L i) ∧ B (rn lo hi B L i) ≤ hi) := rnd_stop _ _ (by omega)
theorem te_gt (B : Nat → Int) (L i : Nat) : i < te B L i := by
  have h1 := rn_ge (lo := 97) (hi := 122) (B := B) (L := L) (i + 1)
  have h2 := rn_ge (lo := 48) (hi := 57) (B := B) (L := L) (i + 1)
  unfold te
  split
  · omega
  · split <;> omega
theorem te_le {B : Nat → Int} {L i : Nat} (h : i < L) : te B L i ≤ L := by
  have h1 := rn_le (lo := 97) (hi := 122) (B := B) (L := L) (i := i + 1) h
  have h2 := rn_le (lo := 48) (hi := 57) (B := B) (L := L) (i := i + 1) h
  unfold te
  split
  · omega
  · split <;> omega
/-- names of the steps, two signs each -/
def nC (k : Nat) : Int := ([110, 110, 101, 115, 115, 115, 119, 110] : List Int).getD k 0
def nD (k : Nat) : Int := ([32, 101, 32, 101, 32, 119, 32, 119] : List Int).getD k 0
def ns (c d : Int) : Nat → Nat → Int
  | 0, _ => -1
  | n + 1, k => if c = nC k ∧ d = nD k then (k : Int) else ns c d n (k + 1)
/-- the step that is named from i to e -/
def stpn (B : Nat → Int) (i e : Nat) : Int := if e ≤ i + 2 then ns (B i) (if e = i + 2 then B (i + 1) else 32) 8 0 else -1
theorem ns_iv (c d : Int) : ∀ n k : Nat, -1 ≤ ns c d n k ∧ ns c d n k < (k : Int) + n
  | 0, k => by rw [ns]; omega
  | n + 1, k => by
    rw [ns]
    split
    · omega
    · have := ns_iv c d n (k + 1); omega
theorem stp_iv (B : Nat → Int) (i e : Nat) : -1 ≤ stpn B i e ∧ stpn B i e ≤ 7 := by
  unfold stpn
  split
  · have := ns_iv (B i) (if e = i + 2 then B (i + 1) else 32) 8 0; omega
  · omega
def upi (w : Nat → Int) (k : Nat) (v : Int) : Nat → Int := fun j => if j = k then v else w j
abbrev okF (B : Nat → Int) (i e : Nat) : Prop := e = i + 4 ∧ B i = 102 ∧ B (i + 1) = 114 ∧ B (i + 2) = 111 ∧ B (i + 3) = 109
abbrev okS (B : Nat → Int) (i e : Nat) (b : Int) (w : Nat → Int) : Prop := b ≤ 2 ∧ stpn B i e ≠ -1 ∧ w (stpn B i e).toNat = 0
/-- what a part does: what is behind, the weights, the last step, x, y -/
def tr1 (B : Nat → Int) (L i : Nat) (b : Int) (w : Nat → Int) (la : Nat) (x y : Int) : Option (Int × (Nat → Int) × Nat × Int × Int) :=
  if 97 ≤ B i ∧ B i ≤ 122 then
    if b = 3 then (if okF B i (te B L i) then some (4, w, la, x, y) else none)
    else if okS B i (te B L i) b w then some (1, upi w (stpn B i (te B L i)).toNat 1, (stpn B i (te B L i)).toNat, x, y) else none
  else if 48 ≤ B i ∧ B i ≤ 57 then
    if te B L i = i + 1 then
      if b = 1 ∧ B i ≠ 48 then some (2, upi w la (B i - 48), la, x, y)
      else if b = 4 then some (5, w, la, B i - 48, y)
      else if b = 5 then some (6, w, la, x, B i - 48) else none
    else none
  else if B i = 59 ∧ (b = 1 ∨ b = 2) then some (3, w, la, x, y) else none
def rnf (B : Nat → Int) (L : Nat) : Nat → Nat → Int → (Nat → Int) → Nat → Int → Int → Int × (Nat → Int) × Int × Int
  | 0, _, _, w, _, x, y => (0, w, x, y)
  | n + 1, i, b, w, la, x, y => if i < L then (if B i = 32 then rnf B L n (i + 1) b w la x y else match tr1 B L i b w la x y with
      | some q => rnf B L n (te B L i) q.1 q.2.1 q.2.2.1 q.2.2.2.1 q.2.2.2.2
      | none => ((i : Int), w, x, y)) else (if b = 1 ∨ b = 2 ∨ b = 6 then -1 else (L : Int), w, x, y)
theorem rnf_eq {B : Nat → Int} {L : Nat} : ∀ (n m i : Nat) (b : Int) (w : Nat → Int) (la : Nat) (x y : Int), L - i < n → L - i < m → rnf B L n i b w la x y = rnf B L m i b w la x y
  | 0, _, _, _, _, _, _, _, h, _ => absurd h (by omega)
  | _, 0, _, _, _, _, _, _, _, h => absurd h (by omega)
  | n + 1, m + 1, i, b, w, la, x, y, h1, h2 => by
    rw [rnf, rnf]
    by_cases hi : i < L
    · rw [if_pos hi, if_pos hi]
      by_cases hs : B i = 32
      · rw [if_pos hs, if_pos hs]; exact rnf_eq n m _ _ _ _ _ _ (by omega) (by omega)
      · rw [if_neg hs, if_neg hs]
        have hg := te_gt B L i
        cases tr1 B L i b w la x y with
        | none => rfl
        | some q => exact rnf_eq n m _ _ _ _ _ _ (by omega) (by omega)
    · rw [if_neg hi, if_neg hi]
/-- the fault (or -1), the weights, x, y -/
def run (B : Nat → Int) (L i : Nat) (b : Int) (w : Nat → Int) (la : Nat) (x y : Int) : Int × (Nat → Int) × Int × Int := rnf B L (L - i + 1) i b w la x y
theorem run_end {B : Nat → Int} {L i : Nat} {b : Int} {w : Nat → Int} {la : Nat} {x y : Int} (h : ¬ i < L) : run B L i b w la x y = (if b = 1 ∨ b = 2 ∨ b = 6 then -1 else (L : Int), w, x, y) := by
  unfold run; rw [rnf, if_neg h]
theorem run_sp {B : Nat → Int} {L i : Nat} {b : Int} {w : Nat → Int} {la : Nat} {x y : Int} (h : i < L) (hs : B i = 32) : run B L i b w la x y = run B L (i + 1) b w la x y := by
  unfold run; rw [rnf, if_pos h, if_pos hs]; exact rnf_eq _ _ _ _ _ _ _ _ (by omega) (by omega)
theorem run_some {B : Nat → Int} {L i : Nat} {b : Int} {w : Nat → Int} {la : Nat} {x y : Int} {q : Int × (Nat → Int) × Nat × Int × Int} (h : i < L) (hs : B i ≠ 32) (e : tr1 B L i b w la x y = some q) : run B L i b w la x y = run B L (te B L i) q.1 q.2.1 q.2.2.1 q.2.2.2.1 q.2.2.2.2 := by
  have hg := te_gt B L i
  unfold run; rw [rnf, if_pos h, if_neg hs, e]; exact rnf_eq _ _ _ _ _ _ _ _ (by omega) (by omega)
theorem run_none {B : Nat → Int} {L i : Nat} {b : Int} {w : Nat → Int} {la : Nat} {x y : Int} (h : i < L) (hs : B i ≠ 32) (e : tr1 B L i b w la x y = none) : run B L i b w la x y = ((i : Int), w, x, y) := by
  unfold run; rw [rnf, if_pos h, if_neg hs, e]
theorem run_skip {B : Nat → Int} {L : Nat} {b : Int} {w : Nat → Int} {la : Nat} {x y : Int} : ∀ (n i : Nat), L - i ≤ n → run B L i b w la x y = run B L (rn 32 32 B L i) b w la x y
  | 0, i, h => by rw [rn_e (by omega)]
  | n + 1, i, h => by
    by_cases hq : i < L ∧ 32 ≤ B i ∧ B i ≤ 32
    · rw [run_sp hq.1 (by omega), run_skip n (i + 1) (by omega), rn_s hq rfl]
    · rw [rn_e hq]
theorem run_sk {B : Nat → Int} {L : Nat} {b : Int} {w : Nat → Int} {la : Nat} {x y : Int} (i : Nat) : run B L i b w la x y = run B L (rn 32 32 B L i) b w la x y := run_skip (L - i) i (Nat.le_refl _)
/-- rows of tr1 -/
theorem tr_from {B : Nat → Int} {L i : Nat} {b : Int} {w : Nat → Int} {la : Nat} {x y : Int} (hl : 97 ≤ B i ∧ B i ≤ 122) (hb : b = 3) (hf : okF B i (te B L i)) : tr1 B L i b w la x y = some (4, w, la, x, y) := by
  unfold tr1; rw [if_pos hl, if_pos hb, if_pos hf]
theorem tr_fromN {B : Nat → Int} {L i : Nat} {b : Int} {w : Nat → Int} {la : Nat} {x y : Int} (hl : 97 ≤ B i ∧ B i ≤ 122) (hb : b = 3) (hf : ¬ okF B i (te B L i)) : tr1 B L i b w la x y = none := by
  unfold tr1; rw [if_pos hl, if_pos hb, if_neg hf]
theorem tr_step {B : Nat → Int} {L i : Nat} {b : Int} {w : Nat → Int} {la : Nat} {x y : Int} (hl : 97 ≤ B i ∧ B i ≤ 122) (hb : b ≠ 3) (hf : okS B i (te B L i) b w) : tr1 B L i b w la x y = some (1, upi w (stpn B i (te B L i)).toNat 1, (stpn B i (te B L i)).toNat, x, y) := by
  unfold tr1; rw [if_pos hl, if_neg hb, if_pos hf]
theorem tr_stepN {B : Nat → Int} {L i : Nat} {b : Int} {w : Nat → Int} {la : Nat} {x y : Int} (hl : 97 ≤ B i ∧ B i ≤ 122) (hb : b ≠ 3) (hf : ¬ okS B i (te B L i) b w) : tr1 B L i b w la x y = none := by
  unfold tr1; rw [if_pos hl, if_neg hb, if_neg hf]
theorem tr_num {B : Nat → Int} {L i : Nat} {b : Int} {w : Nat → Int} {la : Nat} {x y : Int} (hd : 48 ≤ B i ∧ B i ≤ 57) (he : te B L i = i + 1) : tr1 B L i b w la x y = if b = 1 ∧ B i ≠ 48 then some (2, upi w la (B i - 48), la, x, y) else if b = 4 then some (5, w, la, B i - 48, y) else if b = 5 then some (6, w, la, x, B i - 48) else none := by
  unfold tr1; rw [if_neg (by omega), if_pos hd, if_pos he]
theorem tr_numN {B : Nat → Int} {L i : Nat} {b : Int} {w : Nat → Int} {la : Nat} {x y : Int} (hd : 48 ≤ B i ∧ B i ≤ 57) (he : te B L i ≠ i + 1) : tr1 B L i b w la x y = none := by
  unfold tr1; rw [if_neg (by omega), if_pos hd, if_neg he]
theorem tr_semi {B : Nat → Int} {L i : Nat} {b : Int} {w : Nat → Int} {la : Nat} {x y : Int} (h : B i = 59) (hb : b = 1 ∨ b = 2) : tr1 B L i b w la x y = some (3, w, la, x, y) := by
  unfold tr1; rw [if_neg (by omega), if_neg (by omega), if_pos ⟨h, hb⟩]
theorem tr_else {B : Nat → Int} {L i : Nat} {b : Int} {w : Nat → Int} {la : Nat} {x y : Int} (hl : ¬ (97 ≤ B i ∧ B i ≤ 122)) (hd : ¬ (48 ≤ B i ∧ B i ≤ 57)) (h : ¬ (B i = 59 ∧ (b = 1 ∨ b = 2))) : tr1 B L i b w la x y = none := by
  unfold tr1; rw [if_neg hl, if_neg hd, if_neg h]
theorem tr_bad {B : Nat → Int} {L i : Nat} {b : Int} {w : Nat → Int} {la : Nat} {x y : Int} (hb : b = 3 ∨ b = 4 ∨ b = 5 ∨ b = 6) (hf : b = 3 → ¬ ((97 ≤ B i ∧ B i ≤ 122) ∧ okF B i (te B L i))) (hn : b = 4 ∨ b = 5 → ¬ ((48 ≤ B i ∧ B i ≤ 57) ∧ te B L i = i + 1)) : tr1 B L i b w la x y = none := by
  unfold tr1
  by_cases hl : 97 ≤ B i ∧ B i ≤ 122
  · rw [if_pos hl]
    by_cases h3 : b = 3
    · rw [if_pos h3, if_neg (fun z => hf h3 ⟨hl, z⟩)]
    · rw [if_neg h3, if_neg (fun z => by have := z.1; omega)]
  · rw [if_neg hl]
    by_cases hd : 48 ≤ B i ∧ B i ≤ 57
    · rw [if_pos hd]
      by_cases he : te B L i = i + 1
      · rw [if_pos he, if_neg (by omega), if_neg (fun z => hn (Or.inl z) ⟨hd, he⟩), if_neg (fun z => hn (Or.inr z) ⟨hd, he⟩)]
      · rw [if_neg he]
    · rw [if_neg hd, if_neg (by omega)]
theorem upi_at {w : Nat → Int} {k j : Nat} {v : Int} (h : j = k) : upi w k v j = v := if_pos h
theorem upi_off {w : Nat → Int} {k j : Nat} {v : Int} (h : ¬ j = k) : upi w k v j = w j := if_neg h
theorem te_sp {B : Nat → Int} {L i : Nat} (h : B i = 32) : te B L i = i + 1 := by unfold te; rw [if_neg (by omega), if_neg (by omega)]
theorem te_dig {B : Nat → Int} {L i : Nat} (hi : i < L) (h : 48 ≤ B i ∧ B i ≤ 57) : te B L i = rn 48 57 B L i := by
  unfold te; rw [if_neg (by omega), if_pos h, rn_s ⟨hi, h⟩ rfl]
theorem te_let {B : Nat → Int} {L i : Nat} (hi : i < L) (h : 97 ≤ B i ∧ B i ≤ 122) : te B L i = rn 97 122 B L i := by
  unfold te; rw [if_pos h, rn_s ⟨hi, h⟩ rfl]
theorem ns_s {c d : Int} {k j : Nat} (hk : k < 8) (h : ¬ (c = nC k ∧ d = nD k)) (hj : j = k + 1) : ns c d (8 - j) j = ns c d (8 - k) k := by
  subst hj
  rw [show 8 - k = (8 - (k + 1)) + 1 by omega, ns, if_neg h]
theorem ns_y {c d : Int} {k : Nat} (hk : k < 8) (h : c = nC k ∧ d = nD k) : ns c d (8 - k) k = (k : Int) := by
  rw [show 8 - k = (7 - k) + 1 by omega, ns, if_pos h]
/-! ===== texts ===== -/
/-- the sign at x of text i -/
def sch (i : Nat) (x : Int32) : Int32 := (str_byt.getD i []).getD x.toNatClampNeg 0 &&& 255
theorem sch_nC : ∀ k : Nat, k < 8 → (sch 11 (nI (2 * k))).toInt = nC k ∧ (sch 11 (nI (2 * k + 1))).toInt = nD k := by decide +kernel
theorem sch_iv (i : Nat) (x : Int32) : iv (sch i x) 0 255 := iv_and rfl (by decide)
theorem sch_c {k : Nat} {x : Int32} (hk : k < 8) (hx : x.toInt = 2 * (k : Int)) : (sch 11 x).toInt = nC k := by
  rw [show x = nI (2 * k) from Int32.toInt_inj.mp (by rw [nI_toInt (by omega)]; omega)]; exact (sch_nC k hk).1
theorem sch_d {k : Nat} {x : Int32} (hk : k < 8) (hx : x.toInt = 2 * (k : Int) + 1) : (sch 11 x).toInt = nD k := by
  rw [show x = nI (2 * k + 1) from Int32.toInt_inj.mp (by rw [nI_toInt (by omega)]; omega)]; exact (sch_nC k hk).2
theorem w_480 : Cond.fieldLink "java/lang/String" 38 "java/lang/String" "COMPACT_STRINGS" "Z" ∈ wAll := wI2 145 (by decide +kernel) (by decide +kernel)
theorem dJ0_coder_7d493_0 : decode cJ0_coder_7d493 0 = .ok (.getstatic 38, 3) := by decide +kernel
theorem dJ0_coder_7d493_3 : decode cJ0_coder_7d493 3 = .ok (.ifCond .eq 10, 3) := by decide +kernel
theorem dJ0_coder_7d493_6 : decode cJ0_coder_7d493 6 = .ok (.aload_n 0, 1) := by decide +kernel
theorem w_2088 : Cond.fieldLink "java/lang/String" 15 "java/lang/String" "coder" "B" ∈ wAll := wI9 73 (by decide +kernel) (by decide +kernel)
theorem dJ0_coder_7d493_7 : decode cJ0_coder_7d493 7 = .ok (.getfield 15, 3) := by decide +kernel
theorem dJ0_coder_7d493_10 : decode cJ0_coder_7d493 10 = .ok (.goto 4, 3) := by decide +kernel
theorem dJ0_coder_7d493_14 : decode cJ0_coder_7d493 14 = .ok (.ireturn, 1) := by decide +kernel
theorem dJ0_length_8abf5_0 : decode cJ0_length_8abf5 0 = .ok (.aload_n 0, 1) := by decide +kernel
theorem w_2089 : Cond.fieldLink "java/lang/String" 9 "java/lang/String" "value" "[B" ∈ wAll := wI9 74 (by decide +kernel) (by decide +kernel)
theorem dJ0_length_8abf5_1 : decode cJ0_length_8abf5 1 = .ok (.getfield 9, 3) := by decide +kernel
theorem dJ0_length_8abf5_4 : decode cJ0_length_8abf5 4 = .ok (.arraylength, 1) := by decide +kernel
theorem dJ0_length_8abf5_5 : decode cJ0_length_8abf5 5 = .ok (.aload_n 0, 1) := by decide +kernel
theorem dJ0_length_8abf5_6 : decode cJ0_length_8abf5 6 = .ok (.invokevirtual 335, 3) := by decide +kernel
theorem w_1257 : Cond.selects yJ0_coder_7d493.cls yJ0_coder_7d493 yJ0_coder_7d493 ∈ wAll := wI5 202 (by decide +kernel) (by decide +kernel)
theorem w_108 : Cond.initialized "java/lang/String" ∈ wAll := wI1 13 (by decide +kernel) (by decide +kernel)
theorem mk_J0_coder_7d493 : mk yJ0_coder_7d493 0 := ⟨by decide +kernel, w_108⟩
theorem w_1255 : Cond.methodLink "java/lang/String" 335 yJ0_coder_7d493 ∈ wAll := wI5 200 (by decide +kernel) (by decide +kernel)
theorem w_1256 : Cond.instanceMethod yJ0_coder_7d493 ∈ wAll := wI5 201 (by decide +kernel) (by decide +kernel)
theorem w_1258 : Cond.code yJ0_coder_7d493 cJ0_coder_7d493 1 (some .byte) ∈ wAll := wI5 203 (by decide +kernel) (by decide +kernel)
theorem dJ0_length_8abf5_9 : decode cJ0_length_8abf5 9 = .ok (.ishr, 1) := by decide +kernel
theorem dJ0_length_8abf5_10 : decode cJ0_length_8abf5 10 = .ok (.ireturn, 1) := by decide +kernel
theorem dJ0_isLatin1_aae02_0 : decode cJ0_isLatin1_aae02 0 = .ok (.getstatic 38, 3) := by decide +kernel
theorem dJ0_isLatin1_aae02_3 : decode cJ0_isLatin1_aae02 3 = .ok (.ifCond .eq 14, 3) := by decide +kernel
theorem dJ0_isLatin1_aae02_6 : decode cJ0_isLatin1_aae02 6 = .ok (.aload_n 0, 1) := by decide +kernel
theorem dJ0_isLatin1_aae02_7 : decode cJ0_isLatin1_aae02 7 = .ok (.getfield 15, 3) := by decide +kernel
theorem dJ0_isLatin1_aae02_10 : decode cJ0_isLatin1_aae02 10 = .ok (.ifCond .ne 7, 3) := by decide +kernel
theorem dJ0_isLatin1_aae02_13 : decode cJ0_isLatin1_aae02 13 = .ok (.iconst 1, 1) := by decide +kernel
theorem dJ0_isLatin1_aae02_14 : decode cJ0_isLatin1_aae02 14 = .ok (.goto 4, 3) := by decide +kernel
theorem dJ0_isLatin1_aae02_18 : decode cJ0_isLatin1_aae02 18 = .ok (.ireturn, 1) := by decide +kernel
theorem dJ3_checkIndex_8e157_0 : decode cJ3_checkIndex_8e157 0 = .ok (.iload_n 0, 1) := by decide +kernel
theorem dJ3_checkIndex_8e157_1 : decode cJ3_checkIndex_8e157 1 = .ok (.ifCond .lt 8, 3) := by decide +kernel
theorem dJ3_checkIndex_8e157_4 : decode cJ3_checkIndex_8e157 4 = .ok (.iload_n 0, 1) := by decide +kernel
theorem dJ3_checkIndex_8e157_5 : decode cJ3_checkIndex_8e157 5 = .ok (.iload_n 1, 1) := by decide +kernel
theorem dJ3_checkIndex_8e157_6 : decode cJ3_checkIndex_8e157 6 = .ok (.if_icmp .lt 10, 3) := by decide +kernel
theorem dJ3_checkIndex_8e157_16 : decode cJ3_checkIndex_8e157 16 = .ok (.iload_n 0, 1) := by decide +kernel
theorem dJ3_checkIndex_8e157_17 : decode cJ3_checkIndex_8e157 17 = .ok (.ireturn, 1) := by decide +kernel
theorem dJ0_checkIndex_df160_0 : decode cJ0_checkIndex_df160 0 = .ok (.iload_n 0, 1) := by decide +kernel
theorem dJ0_checkIndex_df160_1 : decode cJ0_checkIndex_df160 1 = .ok (.iload_n 1, 1) := by decide +kernel
theorem w_487 : Cond.fieldLink "java/lang/String" 1053 "jdk/internal/util/Preconditions" "SIOOBE_FORMATTER" "Ljava/util/function/BiFunction;" ∈ wAll := wI2 152 (by decide +kernel) (by decide +kernel)
theorem dJ0_checkIndex_df160_2 : decode cJ0_checkIndex_df160 2 = .ok (.getstatic 1053, 3) := by decide +kernel
theorem dJ0_checkIndex_df160_5 : decode cJ0_checkIndex_df160 5 = .ok (.invokestatic 1059, 3) := by decide +kernel
theorem w_114 : Cond.initialized "jdk/internal/util/Preconditions" ∈ wAll := wI1 19 (by decide +kernel) (by decide +kernel)
theorem mk_J3_checkIndex_8e157 : mk yJ3_checkIndex_8e157 3 := ⟨by decide +kernel, w_114⟩
theorem w_489 : Cond.methodLink "java/lang/String" 1059 yJ3_checkIndex_8e157 ∈ wAll := wI2 154 (by decide +kernel) (by decide +kernel)
theorem w_490 : Cond.static yJ3_checkIndex_8e157 ∈ wAll := wI2 155 (by decide +kernel) (by decide +kernel)
theorem w_491 : Cond.code yJ3_checkIndex_8e157 cJ3_checkIndex_8e157 3 (some .int) ∈ wAll := wI2 156 (by decide +kernel) (by decide +kernel)
theorem dJ0_checkIndex_df160_8 : decode cJ0_checkIndex_df160 8 = .ok (.pop, 1) := by decide +kernel
theorem dJ0_checkIndex_df160_9 : decode cJ0_checkIndex_df160 9 = .ok (.return_, 1) := by decide +kernel
theorem dJ1_charAt_3b067_0 : decode cJ1_charAt_3b067 0 = .ok (.iload_n 1, 1) := by decide +kernel
theorem dJ1_charAt_3b067_1 : decode cJ1_charAt_3b067 1 = .ok (.aload_n 0, 1) := by decide +kernel
theorem dJ1_charAt_3b067_2 : decode cJ1_charAt_3b067 2 = .ok (.arraylength, 1) := by decide +kernel
theorem dJ1_charAt_3b067_3 : decode cJ1_charAt_3b067 3 = .ok (.invokestatic 9, 3) := by decide +kernel
theorem mk_J0_checkIndex_df160 : mk yJ0_checkIndex_df160 2 := ⟨by decide +kernel, w_108⟩
theorem w_484 : Cond.methodLink "java/lang/StringLatin1" 9 yJ0_checkIndex_df160 ∈ wAll := wI2 149 (by decide +kernel) (by decide +kernel)
theorem w_485 : Cond.static yJ0_checkIndex_df160 ∈ wAll := wI2 150 (by decide +kernel) (by decide +kernel)
theorem w_486 : Cond.code yJ0_checkIndex_df160 cJ0_checkIndex_df160 2 none ∈ wAll := wI2 151 (by decide +kernel) (by decide +kernel)
theorem dJ1_charAt_3b067_6 : decode cJ1_charAt_3b067 6 = .ok (.aload_n 0, 1) := by decide +kernel
theorem dJ1_charAt_3b067_7 : decode cJ1_charAt_3b067 7 = .ok (.iload_n 1, 1) := by decide +kernel
theorem dJ1_charAt_3b067_8 : decode cJ1_charAt_3b067 8 = .ok (.baload, 1) := by decide +kernel
theorem dJ1_charAt_3b067_9 : decode cJ1_charAt_3b067 9 = .ok (.sipush 255, 3) := by decide +kernel
theorem dJ1_charAt_3b067_12 : decode cJ1_charAt_3b067 12 = .ok (.iand, 1) := by decide +kernel
theorem dJ1_charAt_3b067_13 : decode cJ1_charAt_3b067 13 = .ok (.i2c, 1) := by decide +kernel
theorem dJ1_charAt_3b067_14 : decode cJ1_charAt_3b067 14 = .ok (.ireturn, 1) := by decide +kernel
theorem dJ0_charAt_5068e_0 : decode cJ0_charAt_5068e 0 = .ok (.aload_n 0, 1) := by decide +kernel
theorem dJ0_charAt_5068e_1 : decode cJ0_charAt_5068e 1 = .ok (.invokevirtual 492, 3) := by decide +kernel
theorem w_478 : Cond.selects yJ0_isLatin1_aae02.cls yJ0_isLatin1_aae02 yJ0_isLatin1_aae02 ∈ wAll := wI2 143 (by decide +kernel) (by decide +kernel)
theorem mk_J0_isLatin1_aae02 : mk yJ0_isLatin1_aae02 0 := ⟨by decide +kernel, w_108⟩
theorem w_476 : Cond.methodLink "java/lang/String" 492 yJ0_isLatin1_aae02 ∈ wAll := wI2 141 (by decide +kernel) (by decide +kernel)
theorem w_477 : Cond.instanceMethod yJ0_isLatin1_aae02 ∈ wAll := wI2 142 (by decide +kernel) (by decide +kernel)
theorem w_479 : Cond.code yJ0_isLatin1_aae02 cJ0_isLatin1_aae02 1 (some .boolean) ∈ wAll := wI2 144 (by decide +kernel) (by decide +kernel)
theorem dJ0_charAt_5068e_4 : decode cJ0_charAt_5068e 4 = .ok (.ifCond .eq 12, 3) := by decide +kernel
theorem dJ0_charAt_5068e_7 : decode cJ0_charAt_5068e 7 = .ok (.aload_n 0, 1) := by decide +kernel
theorem dJ0_charAt_5068e_8 : decode cJ0_charAt_5068e 8 = .ok (.getfield 9, 3) := by decide +kernel
theorem dJ0_charAt_5068e_11 : decode cJ0_charAt_5068e 11 = .ok (.iload_n 1, 1) := by decide +kernel
theorem dJ0_charAt_5068e_12 : decode cJ0_charAt_5068e 12 = .ok (.invokestatic 495, 3) := by decide +kernel
theorem w_113 : Cond.initialized "java/lang/StringLatin1" ∈ wAll := wI1 18 (by decide +kernel) (by decide +kernel)
theorem mk_J1_charAt_3b067 : mk yJ1_charAt_3b067 2 := ⟨by decide +kernel, w_113⟩
theorem w_481 : Cond.methodLink "java/lang/String" 495 yJ1_charAt_3b067 ∈ wAll := wI2 146 (by decide +kernel) (by decide +kernel)
theorem w_482 : Cond.static yJ1_charAt_3b067 ∈ wAll := wI2 147 (by decide +kernel) (by decide +kernel)
theorem w_483 : Cond.code yJ1_charAt_3b067 cJ1_charAt_3b067 2 (some .char) ∈ wAll := wI2 148 (by decide +kernel) (by decide +kernel)
theorem dJ0_charAt_5068e_15 : decode cJ0_charAt_5068e 15 = .ok (.ireturn, 1) := by decide +kernel
abbrev rm_c_coder : Room := { frames := 0, cells := 0, slots := 0, locals := 0 }
set_option maxRecDepth 100000 in
theorem c_coder (l : Launch) (D : va_G) (G : Nat → Nat) (b0 : Nat) (f : hM) (i : Nat) (hi : i < 12) : mI l yJ0_coder_7d493 cJ0_coder_7d493 1 (.byte) rm_c_coder D G b0 f [.ref (G (20 + i))] (fun r f1 => r = 0 ∧ f = f1) := by
  refine met2 (own := RJ0) (by decide) rfl (Nat.le_of_ble_eq_true rfl) ?_
  intro p e s m args below meth c ls Q hQ C hr hini hl h
  have hl : lv_has ls 1 [(0, .ref (G (20 + i)))] := hl
  obtain ⟨hx, hb, hml, hown, hts, hE0, hlk⟩ := id C
  have hvk := hE0.2.2.2.2.2.2.2.2.2.1
  refine va_gets hx hb hE0.2.1 h.2.2.1 hown (hts _ w_480) (fun _ h9 => h9) dJ0_coder_7d493_0 ?_
  refine lv_if_eq (tgt := 13) hx hb dJ0_coder_7d493_3 (by decide) (fun c1 => absurd c1 (by decide)) (fun c1 => ?_)
  refine lv_aload_n hx hb dJ0_coder_7d493_6 rfl (lv_at hl 0 rfl) ?_
  refine vk_getf hx hb (hvk.1 i hi).2.1 h.2.2.1 hown (hts _ w_2088) (fun _ h9 => h9) dJ0_coder_7d493_7 ?_
  refine lv_goto (tgt := 14) hx hb dJ0_coder_7d493_10 (by decide) ?_
  subst hQ
  exact q_bret C h hr rfl (⟨rfl, rfl⟩) (Nat.le_of_ble_eq_true rfl) (Nat.le_of_ble_eq_true rfl) dJ0_coder_7d493_14
abbrev rm_c_length : Room := { frames := 1, cells := 0, slots := 0, locals := 20 }
set_option maxRecDepth 100000 in
theorem c_length (l : Launch) (D : va_G) (G : Nat → Nat) (b0 : Nat) (f : hM) (i : Nat) (hi : i < 12) : mI l yJ0_length_8abf5 cJ0_length_8abf5 1 (.int) rm_c_length D G b0 f [.ref (G (20 + i))] (fun r f1 => r = nI (str_len.getD i 0) ∧ f = f1) := by
  refine met2 (own := RJ0) (by decide) rfl (Nat.le_of_ble_eq_true rfl) ?_
  intro p e s m args below meth c ls Q hQ C hr hini hl h
  have hl : lv_has ls 1 [(0, .ref (G (20 + i)))] := hl
  obtain ⟨hx, hb, hml, hown, hts, hE0, hlk⟩ := id C
  have hvk := hE0.2.2.2.2.2.2.2.2.2.1
  refine lv_aload_n hx hb dJ0_length_8abf5_0 rfl (lv_at hl 0 rfl) ?_
  refine vk_getf hx hb (hvk.1 i hi).2.2.1 h.2.2.1 hown (hts _ w_2089) (fun _ h9 => h9) dJ0_length_8abf5_1 ?_
  refine va_tlen hx hb (hvk.1 i hi).2.2.2 h.2.2.1 (v := nI (str_len.getD i 0)) rfl dJ0_length_8abf5_4 ?_
  refine lv_aload_n hx hb dJ0_length_8abf5_5 rfl (lv_at hl 0 rfl) ?_
  have hrv := vk_recv hvk hi h.2.2.1
  refine k_i (r_VK C h hl (As := []) (rest := [.int (nI (str_len.getD i 0))]) (c_coder l D G b0 f i hi) hrv mk_J0_coder_7d493 w_1255 w_1256 w_1257 w_1258 ⟨(Nat.le_of_ble_eq_true rfl), (Nat.le_of_ble_eq_true rfl)⟩ rfl (Nat.le_of_ble_eq_true rfl) ⟨(Nat.le_of_ble_eq_true rfl), (Nat.le_of_ble_eq_true rfl)⟩ rfl dJ0_length_8abf5_6) h (fun r1 f1 H locs hp h => ?_)
  obtain ⟨rfl, rfl⟩ := hp
  refine lv_ishr hx hb dJ0_length_8abf5_9 ?_
  exact u_iret C h hr hQ (⟨sb_shr0 _, rfl⟩) (Nat.le_of_ble_eq_true rfl) (Nat.le_of_ble_eq_true rfl) dJ0_length_8abf5_10
abbrev rm_c_isL : Room := { frames := 0, cells := 0, slots := 0, locals := 0 }
set_option maxRecDepth 100000 in
theorem c_isL (l : Launch) (D : va_G) (G : Nat → Nat) (b0 : Nat) (f : hM) (i : Nat) (hi : i < 12) : mI l yJ0_isLatin1_aae02 cJ0_isLatin1_aae02 1 (.boolean) rm_c_isL D G b0 f [.ref (G (20 + i))] (fun r f1 => r = 1 ∧ f = f1) := by
  refine met2 (own := RJ0) (by decide) rfl (Nat.le_of_ble_eq_true rfl) ?_
  intro p e s m args below meth c ls Q hQ C hr hini hl h
  have hl : lv_has ls 1 [(0, .ref (G (20 + i)))] := hl
  obtain ⟨hx, hb, hml, hown, hts, hE0, hlk⟩ := id C
  have hvk := hE0.2.2.2.2.2.2.2.2.2.1
  refine va_gets hx hb hE0.2.1 h.2.2.1 hown (hts _ w_480) (fun _ h9 => h9) dJ0_isLatin1_aae02_0 ?_
  refine lv_if_eq (tgt := 17) hx hb dJ0_isLatin1_aae02_3 (by decide) (fun c1 => absurd c1 (by decide)) (fun c1 => ?_)
  refine lv_aload_n hx hb dJ0_isLatin1_aae02_6 rfl (lv_at hl 0 rfl) ?_
  refine vk_getf hx hb (hvk.1 i hi).2.1 h.2.2.1 hown (hts _ w_2088) (fun _ h9 => h9) dJ0_isLatin1_aae02_7 ?_
  refine lv_if_ne (tgt := 17) hx hb dJ0_isLatin1_aae02_10 (by decide) (fun c2 => absurd c2 (by decide)) (fun c2 => ?_)
  refine lv_iconst (v := 1) hx hb dJ0_isLatin1_aae02_13 (by decide) ?_
  refine lv_goto (tgt := 18) hx hb dJ0_isLatin1_aae02_14 (by decide) ?_
  subst hQ
  exact q_zret C h hr (Or.inr rfl) (⟨rfl, rfl⟩) (Nat.le_of_ble_eq_true rfl) (Nat.le_of_ble_eq_true rfl) dJ0_isLatin1_aae02_18
abbrev rm_c_chkN : Room := { frames := 0, cells := 0, slots := 0, locals := 0 }
set_option maxRecDepth 100000 in
theorem c_chkN (l : Launch) (D : va_G) (G : Nat → Nat) (b0 : Nat) (f : hM) (x n : Int32) (hx9 : 0 ≤ x.toInt ∧ x.toInt < n.toInt) : mI l yJ3_checkIndex_8e157 cJ3_checkIndex_8e157 3 (.int) rm_c_chkN D G b0 f [.int x, .int n, .null] (fun r f1 => r = x ∧ f = f1) := by
  refine met2 (own := RJ3) (by decide) rfl (Nat.le_of_ble_eq_true rfl) ?_
  intro p e s m args below meth c ls Q hQ C hr hini hl h
  have hl : lv_has ls 3 [(0, .int x), (1, .int n), (2, .null)] := hl
  obtain ⟨hx, hb, hml, hown, hts, hE0, hlk⟩ := id C
  have hvk := hE0.2.2.2.2.2.2.2.2.2.1
  refine lv_iload_n hx hb dJ3_checkIndex_8e157_0 rfl (lv_at hl 0 rfl) ?_
  refine lv_if_lt (tgt := 9) hx hb dJ3_checkIndex_8e157_1 (by decide) (fun c1 => absurd (Int32.lt_iff_toInt_lt.mp c1) (by have n_ : (0 : Int32).toInt = 0 := rfl; omega)) (fun c1 => ?_)
  refine lv_iload_n hx hb dJ3_checkIndex_8e157_4 rfl (lv_at hl 0 rfl) ?_
  refine lv_iload_n hx hb dJ3_checkIndex_8e157_5 rfl (lv_at hl 1 rfl) ?_
  refine lv_icmp_lt (tgt := 16) hx hb dJ3_checkIndex_8e157_6 (by decide) (fun c2 => ?_) (fun c2 => absurd (Int32.lt_iff_toInt_lt.mpr hx9.2) c2)
  refine lv_iload_n hx hb dJ3_checkIndex_8e157_16 rfl (lv_at hl 0 rfl) ?_
  exact u_iret C h hr hQ (⟨rfl, rfl⟩) (Nat.le_of_ble_eq_true rfl) (Nat.le_of_ble_eq_true rfl) dJ3_checkIndex_8e157_17
abbrev rm_c_chkR : Room := { frames := 0, cells := 0, slots := 0, locals := 0 }
set_option maxRecDepth 100000 in
theorem c_chkR (l : Launch) (D : va_G) (G : Nat → Nat) (b0 : Nat) (f : hM) (x n : Int32) (hx9 : 0 ≤ x.toInt ∧ x.toInt < n.toInt) (t : Nat) : mI l yJ3_checkIndex_8e157 cJ3_checkIndex_8e157 3 (.int) rm_c_chkR D G b0 f [.int x, .int n, .ref t] (fun r f1 => r = x ∧ f = f1) := by
  refine met2 (own := RJ3) (by decide) rfl (Nat.le_of_ble_eq_true rfl) ?_
  intro p e s m args below meth c ls Q hQ C hr hini hl h
  have hl : lv_has ls 3 [(0, .int x), (1, .int n), (2, .ref t)] := hl
  obtain ⟨hx, hb, hml, hown, hts, hE0, hlk⟩ := id C
  have hvk := hE0.2.2.2.2.2.2.2.2.2.1
  refine lv_iload_n hx hb dJ3_checkIndex_8e157_0 rfl (lv_at hl 0 rfl) ?_
  refine lv_if_lt (tgt := 9) hx hb dJ3_checkIndex_8e157_1 (by decide) (fun c1 => absurd (Int32.lt_iff_toInt_lt.mp c1) (by have n_ : (0 : Int32).toInt = 0 := rfl; omega)) (fun c1 => ?_)
  refine lv_iload_n hx hb dJ3_checkIndex_8e157_4 rfl (lv_at hl 0 rfl) ?_
  refine lv_iload_n hx hb dJ3_checkIndex_8e157_5 rfl (lv_at hl 1 rfl) ?_
  refine lv_icmp_lt (tgt := 16) hx hb dJ3_checkIndex_8e157_6 (by decide) (fun c2 => ?_) (fun c2 => absurd (Int32.lt_iff_toInt_lt.mpr hx9.2) c2)
  refine lv_iload_n hx hb dJ3_checkIndex_8e157_16 rfl (lv_at hl 0 rfl) ?_
  exact u_iret C h hr hQ (⟨rfl, rfl⟩) (Nat.le_of_ble_eq_true rfl) (Nat.le_of_ble_eq_true rfl) dJ3_checkIndex_8e157_17
abbrev rm_c_chk : Room := { frames := 1, cells := 0, slots := 0, locals := 22 }
set_option maxRecDepth 100000 in
theorem c_chk (l : Launch) (D : va_G) (G : Nat → Nat) (b0 : Nat) (f : hM) (x n : Int32) (hx9 : 0 ≤ x.toInt ∧ x.toInt < n.toInt) : mV l yJ0_checkIndex_df160 cJ0_checkIndex_df160 2 rm_c_chk D G b0 f [.int x, .int n] (fun f1 => f = f1) := by
  refine met2 (own := RJ0) (by decide) rfl (Nat.le_of_ble_eq_true rfl) ?_
  intro p e s m args below meth c ls Q hQ C hr hini hl h
  have hl : lv_has ls 2 [(0, .int x), (1, .int n)] := hl
  obtain ⟨hx, hb, hml, hown, hts, hE0, hlk⟩ := id C
  have hvk := hE0.2.2.2.2.2.2.2.2.2.1
  refine lv_iload_n hx hb dJ0_checkIndex_df160_0 rfl (lv_at hl 0 rfl) ?_
  refine lv_iload_n hx hb dJ0_checkIndex_df160_1 rfl (lv_at hl 1 rfl) ?_
  rcases hE0.2.2.2.2.2.2.2.2.2.2.2.2.2.2.2.1 with hz | ⟨t, hz⟩
  · refine va_gets hx hb hz h.2.2.1 hown (hts _ w_487) (fun _ h9 => h9) dJ0_checkIndex_df160_2 ?_
    refine k_i (r_S C h hl (As := [.int x, .int n, .null]) (rest := []) (c_chkN l D G b0 f x n hx9) mk_J3_checkIndex_8e157 w_489 w_490 w_491 ⟨(Nat.le_of_ble_eq_true rfl), (Nat.le_of_ble_eq_true rfl)⟩ rfl (Nat.le_of_ble_eq_true rfl) ⟨(Nat.le_of_ble_eq_true rfl), (Nat.le_of_ble_eq_true rfl)⟩ rfl dJ0_checkIndex_df160_5) h (fun r1 f1 H locs hp h => ?_)
    obtain ⟨rfl, rfl⟩ := hp
    refine lv_pop hx hb dJ0_checkIndex_df160_8 rfl ?_
    exact u_vret C h hr hQ rfl (Nat.le_of_ble_eq_true rfl) (Nat.le_of_ble_eq_true rfl) dJ0_checkIndex_df160_9
  · refine va_gets hx hb hz h.2.2.1 hown (hts _ w_487) (fun _ h9 => h9) dJ0_checkIndex_df160_2 ?_
    refine k_i (r_S C h hl (As := [.int x, .int n, .ref t]) (rest := []) (c_chkR l D G b0 f x n hx9 t) mk_J3_checkIndex_8e157 w_489 w_490 w_491 ⟨(Nat.le_of_ble_eq_true rfl), (Nat.le_of_ble_eq_true rfl)⟩ rfl (Nat.le_of_ble_eq_true rfl) ⟨(Nat.le_of_ble_eq_true rfl), (Nat.le_of_ble_eq_true rfl)⟩ rfl dJ0_checkIndex_df160_5) h (fun r1 f1 H locs hp h => ?_)
    obtain ⟨rfl, rfl⟩ := hp
    refine lv_pop hx hb dJ0_checkIndex_df160_8 rfl ?_
    exact u_vret C h hr hQ rfl (Nat.le_of_ble_eq_true rfl) (Nat.le_of_ble_eq_true rfl) dJ0_checkIndex_df160_9
abbrev rm_c_chL : Room := { frames := 2, cells := 0, slots := 0, locals := 43 }
set_option maxRecDepth 100000 in
theorem c_chL (l : Launch) (D : va_G) (G : Nat → Nat) (b0 : Nat) (f : hM) (i : Nat) (hi : i < 12) (x : Int32) (hx9 : 0 ≤ x.toInt ∧ x.toInt < (nI (str_len.getD i 0)).toInt) (hin : vp_in x (str_len.getD i 0)) : mI l yJ1_charAt_3b067 cJ1_charAt_3b067 2 (.char) rm_c_chL D G b0 f [.ref (G (40 + i)), .int x] (fun r f1 => r = sch i x ∧ f = f1) := by
  refine met2 (own := RJ1) (by decide) rfl (Nat.le_of_ble_eq_true rfl) ?_
  intro p e s m args below meth c ls Q hQ C hr hini hl h
  have hl : lv_has ls 2 [(0, .ref (G (40 + i))), (1, .int x)] := hl
  obtain ⟨hx, hb, hml, hown, hts, hE0, hlk⟩ := id C
  have hvk := hE0.2.2.2.2.2.2.2.2.2.1
  refine lv_iload_n hx hb dJ1_charAt_3b067_0 rfl (lv_at hl 1 rfl) ?_
  refine lv_aload_n hx hb dJ1_charAt_3b067_1 rfl (lv_at hl 0 rfl) ?_
  refine va_tlen hx hb (hvk.1 i hi).2.2.2 h.2.2.1 (v := nI (str_len.getD i 0)) rfl dJ1_charAt_3b067_2 ?_
  refine k_v (r_S C h hl (As := [.int x, .int (nI (str_len.getD i 0))]) (rest := []) (c_chk l D G b0 f x _ hx9) mk_J0_checkIndex_df160 w_484 w_485 w_486 ⟨(Nat.le_of_ble_eq_true rfl), (Nat.le_of_ble_eq_true rfl)⟩ rfl (Nat.le_of_ble_eq_true rfl) ⟨(Nat.le_of_ble_eq_true rfl), (Nat.le_of_ble_eq_true rfl)⟩ rfl dJ1_charAt_3b067_3) h (fun f1 H locs hp h => ?_)
  subst hp
  refine lv_aload_n hx hb dJ1_charAt_3b067_6 rfl (lv_at hl 0 rfl) ?_
  refine lv_iload_n hx hb dJ1_charAt_3b067_7 rfl (lv_at hl 1 rfl) ?_
  refine va_tb hx hb (hvk.1 i hi).2.2.2 h.2.2.1 hin rfl dJ1_charAt_3b067_8 ?_
  refine lv_sipush (v := 255) hx hb dJ1_charAt_3b067_9 (by decide) ?_
  refine lv_iand hx hb dJ1_charAt_3b067_12 ?_
  refine lv_i2c hx hb dJ1_charAt_3b067_13 (sc_c2 _) ?_
  subst hQ
  exact q_bret C h hr (sc_nar _) (⟨rfl, rfl⟩) (Nat.le_of_ble_eq_true rfl) (Nat.le_of_ble_eq_true rfl) dJ1_charAt_3b067_14
abbrev rm_c_charAt : Room := { frames := 3, cells := 0, slots := 0, locals := 64 }
set_option maxRecDepth 100000 in
theorem c_charAt (l : Launch) (D : va_G) (G : Nat → Nat) (b0 : Nat) (f : hM) (i : Nat) (hi : i < 12) (x : Int32) (hx9 : 0 ≤ x.toInt ∧ x.toInt < (nI (str_len.getD i 0)).toInt) (hin : vp_in x (str_len.getD i 0)) : mI l yJ0_charAt_5068e cJ0_charAt_5068e 2 (.char) rm_c_charAt D G b0 f [.ref (G (20 + i)), .int x] (fun r f1 => r = sch i x ∧ f = f1) := by
  refine met2 (own := RJ0) (by decide) rfl (Nat.le_of_ble_eq_true rfl) ?_
  intro p e s m args below meth c ls Q hQ C hr hini hl h
  have hl : lv_has ls 2 [(0, .ref (G (20 + i))), (1, .int x)] := hl
  obtain ⟨hx, hb, hml, hown, hts, hE0, hlk⟩ := id C
  have hvk := hE0.2.2.2.2.2.2.2.2.2.1
  refine lv_aload_n hx hb dJ0_charAt_5068e_0 rfl (lv_at hl 0 rfl) ?_
  have hrv := vk_recv hvk hi h.2.2.1
  refine k_i (r_VK C h hl (As := []) (rest := []) (c_isL l D G b0 f i hi) hrv mk_J0_isLatin1_aae02 w_476 w_477 w_478 w_479 ⟨(Nat.le_of_ble_eq_true rfl), (Nat.le_of_ble_eq_true rfl)⟩ rfl (Nat.le_of_ble_eq_true rfl) ⟨(Nat.le_of_ble_eq_true rfl), (Nat.le_of_ble_eq_true rfl)⟩ rfl dJ0_charAt_5068e_1) h (fun r1 f1 H locs hp h => ?_)
  obtain ⟨rfl, rfl⟩ := hp
  refine lv_if_eq (tgt := 16) hx hb dJ0_charAt_5068e_4 (by decide) (fun c1 => absurd c1 (by decide)) (fun c1 => ?_)
  refine lv_aload_n hx hb dJ0_charAt_5068e_7 rfl (lv_at hl 0 rfl) ?_
  refine vk_getf hx hb (hvk.1 i hi).2.2.1 h.2.2.1 hown (hts _ w_2089) (fun _ h9 => h9) dJ0_charAt_5068e_8 ?_
  refine lv_iload_n hx hb dJ0_charAt_5068e_11 rfl (lv_at hl 1 rfl) ?_
  refine k_i (r_S C h hl (As := [.ref (G (40 + i)), .int x]) (rest := []) (c_chL l D G b0 _ i hi x hx9 hin) mk_J1_charAt_3b067 w_481 w_482 w_483 ⟨(Nat.le_of_ble_eq_true rfl), (Nat.le_of_ble_eq_true rfl)⟩ rfl (Nat.le_of_ble_eq_true rfl) ⟨(Nat.le_of_ble_eq_true rfl), (Nat.le_of_ble_eq_true rfl)⟩ rfl dJ0_charAt_5068e_12) h (fun r1 f1 H locs hp h => ?_)
  obtain ⟨rfl, rfl⟩ := hp
  subst hQ
  exact q_bret C h hr (sc_nar _) (⟨rfl, rfl⟩) (Nat.le_of_ble_eq_true rfl) (Nat.le_of_ble_eq_true rfl) dJ0_charAt_5068e_15
