/-! ===== the model's reader ===== -/
theorem sg_c {b : Int} (h : 0 ≤ b ∧ b ≤ 255) : (b < 128 → sg b = b) ∧ (128 ≤ b → sg b = b - 256) ∧ 0 ≤ b ∧ b ≤ 255 := by
  unfold sg
  exact ⟨fun z => if_pos z, fun z => if_neg (by omega), h.1, h.2⟩
theorem rn_rn {lo hi : Int} {B : Nat → Int} {L : Nat} (i : Nat) : rn lo hi B L (rn lo hi B L i) = rn lo hi B L i := rn_e (rn_stop i)
theorem rn_one {lo hi : Int} {B : Nat → Int} {L i : Nat} (h : rn lo hi B L i = i + 1) : i < L ∧ lo ≤ B i ∧ B i ≤ hi := by
  by_cases q : i < L ∧ lo ≤ B i ∧ B i ≤ hi
  · exact q
  · rw [rn_e q] at h; omega
theorem te_1 {B : Nat → Int} {L i : Nat} (hl : 97 ≤ B i ∧ B i ≤ 122) (h : ¬ (i + 1 < L ∧ 97 ≤ B (i + 1) ∧ B (i + 1) ≤ 122)) : te B L i = i + 1 := by
  unfold te; rw [if_pos hl, rn_e h]
theorem te_2 {B : Nat → Int} {L i : Nat} (hl : 97 ≤ B i ∧ B i ≤ 122) (h1 : i + 1 < L ∧ 97 ≤ B (i + 1) ∧ B (i + 1) ≤ 122) (h : ¬ (i + 2 < L ∧ 97 ≤ B (i + 2) ∧ B (i + 2) ≤ 122)) : te B L i = i + 2 := by
  unfold te; rw [if_pos hl, ← rn_s h1 rfl, rn_e h]
theorem te_4 {B : Nat → Int} {L i : Nat} (hl : 97 ≤ B i ∧ B i ≤ 122) (h1 : i + 1 < L ∧ 97 ≤ B (i + 1) ∧ B (i + 1) ≤ 122) (h2 : i + 2 < L ∧ 97 ≤ B (i + 2) ∧ B (i + 2) ≤ 122) (h3 : i + 3 < L ∧ 97 ≤ B (i + 3) ∧ B (i + 3) ≤ 122) (h : ¬ (i + 4 < L ∧ 97 ≤ B (i + 4) ∧ B (i + 4) ≤ 122)) : te B L i = i + 4 := by
  unfold te; rw [if_pos hl, ← rn_s h1 rfl, ← rn_s h2 rfl, ← rn_s h3 rfl, rn_e h]
theorem te_c1 {B : Nat → Int} {L i : Nat} (hl : 97 ≤ B i ∧ B i ≤ 122) (h : te B L i = i + 1) : ¬ (i + 1 < L ∧ 97 ≤ B (i + 1) ∧ B (i + 1) ≤ 122) := fun q => by
  unfold te at h; rw [if_pos hl, ← rn_s q rfl] at h
  have := rn_ge (lo := 97) (hi := 122) (B := B) (L := L) (i + 1 + 1); omega
theorem te_c2 {B : Nat → Int} {L i : Nat} (hl : 97 ≤ B i ∧ B i ≤ 122) (h : te B L i = i + 2) : (i + 1 < L ∧ 97 ≤ B (i + 1) ∧ B (i + 1) ≤ 122) ∧ ¬ (i + 2 < L ∧ 97 ≤ B (i + 2) ∧ B (i + 2) ≤ 122) := by
  have h1 : i + 1 < L ∧ 97 ≤ B (i + 1) ∧ B (i + 1) ≤ 122 := by
    by_cases q : i + 1 < L ∧ 97 ≤ B (i + 1) ∧ B (i + 1) ≤ 122
    · exact q
    · rw [te_1 hl q] at h; omega
  refine ⟨h1, fun q => ?_⟩
  unfold te at h; rw [if_pos hl, ← rn_s h1 rfl, ← rn_s q rfl] at h
  have := rn_ge (lo := 97) (hi := 122) (B := B) (L := L) (i + 2 + 1); omega
theorem te_c4 {B : Nat → Int} {L i : Nat} (hl : 97 ≤ B i ∧ B i ≤ 122) (hlt : i < L) (h : te B L i = i + 4) : i + 4 ≤ L ∧ ¬ (i + 4 < L ∧ 97 ≤ B (i + 4) ∧ B (i + 4) ≤ 122) := by
  have h0 := te_le (B := B) hlt
  have hs := rn_stop (lo := 97) (hi := 122) (B := B) (L := L) (i + 1)
  have e : te B L i = rn 97 122 B L (i + 1) := by unfold te; rw [if_pos hl]
  rw [← e, h] at hs
  exact ⟨by omega, hs⟩
theorem ns_x (c d : Int) : ns c d 8 0 = if c = 110 ∧ d = 32 then 0 else if c = 110 ∧ d = 101 then 1 else if c = 101 ∧ d = 32 then 2 else if c = 115 ∧ d = 101 then 3 else if c = 115 ∧ d = 32 then 4 else if c = 115 ∧ d = 119 then 5 else if c = 119 ∧ d = 32 then 6 else if c = 110 ∧ d = 119 then 7 else -1 := rfl
/-- a word of one sign, of two, "from" -/
def mw1 (B : Nat → Int) (L p : Nat) (c : Int) : Prop := p + 1 ≤ L ∧ B p = c ∧ ¬ (p + 1 < L ∧ 97 ≤ B (p + 1) ∧ B (p + 1) ≤ 122)
def mw2 (B : Nat → Int) (L p : Nat) (c d : Int) : Prop := p + 2 ≤ L ∧ B p = c ∧ B (p + 1) = d ∧ ¬ (p + 2 < L ∧ 97 ≤ B (p + 2) ∧ B (p + 2) ≤ 122)
def mw4 (B : Nat → Int) (L p : Nat) : Prop := p + 4 ≤ L ∧ (B p = 102 ∧ B (p + 1) = 114 ∧ B (p + 2) = 111 ∧ B (p + 3) = 109) ∧ ¬ (p + 4 < L ∧ 97 ≤ B (p + 4) ∧ B (p + 4) ≤ 122)
/-- the step that stands at p: its number, where it ends -/
def sh (B : Nat → Int) (L p : Nat) : Int := if p < L ∧ 97 ≤ B p ∧ B p ≤ 122 then stpn B p (te B L p) else -1
theorem sh_iv (B : Nat → Int) (L p : Nat) : -1 ≤ sh B L p ∧ sh B L p ≤ 7 := by
  unfold sh
  split
  · exact stp_iv _ _ _
  · omega
theorem sh_c {B : Nat → Int} {L p : Nat} (h : sh B L p ≠ -1) : p < L ∧ (97 ≤ B p ∧ B p ≤ 122) ∧ sh B L p = stpn B p (te B L p) := by
  unfold sh at h ⊢
  by_cases q : p < L ∧ 97 ≤ B p ∧ B p ≤ 122
  · rw [if_pos q]; exact ⟨q.1, q.2, rfl⟩
  · rw [if_neg q] at h; exact absurd rfl h
theorem sh_n {B : Nat → Int} {L p : Nat} (h : sh B L p = -1) : p < L → (97 ≤ B p ∧ B p ≤ 122) → stpn B p (te B L p) = -1 := fun h1 h2 => by
  unfold sh at h; rw [if_pos ⟨h1, h2⟩] at h; exact h
theorem sh_1 {B : Nat → Int} {L i : Nat} {c : Int} {t : Int} (h : mw1 B L i c) (hc : 97 ≤ c ∧ c ≤ 122) (ht : ns c 32 8 0 = t) : te B L i = i + 1 ∧ sh B L i = t := by
  obtain ⟨h1, hb, h2⟩ := h
  have e := te_1 (B := B) (L := L) (i := i) (by omega) h2
  refine ⟨e, ?_⟩
  unfold sh; rw [if_pos (by omega), e]; unfold stpn; rw [if_pos (by omega), if_neg (by omega), hb]; exact ht
theorem sh_2 {B : Nat → Int} {L i : Nat} {c d : Int} {t : Int} (h : mw2 B L i c d) (hc : 97 ≤ c ∧ c ≤ 122) (hd : 97 ≤ d ∧ d ≤ 122) (ht : ns c d 8 0 = t) : te B L i = i + 2 ∧ sh B L i = t := by
  obtain ⟨h1, hb, hb1, h2⟩ := h
  have e := te_2 (B := B) (L := L) (i := i) (by omega) (by omega) h2
  refine ⟨e, ?_⟩
  unfold sh; rw [if_pos (by omega), e]; unfold stpn; rw [if_pos (by omega), if_pos rfl, hb, hb1]; exact ht
theorem sh_0 {B : Nat → Int} {L i : Nat} (n0 : ¬ mw1 B L i 110) (n1 : ¬ mw2 B L i 110 101) (n2 : ¬ mw1 B L i 101) (n3 : ¬ mw2 B L i 115 101) (n4 : ¬ mw1 B L i 115) (n5 : ¬ mw2 B L i 115 119) (n6 : ¬ mw1 B L i 119) (n7 : ¬ mw2 B L i 110 119) : sh B L i = -1 := by
  unfold sh
  by_cases q0 : i < L ∧ 97 ≤ B i ∧ B i ≤ 122
  · rw [if_pos q0]
    have hl := q0.2
    have hg := te_gt B L i
    have hle := te_le (B := B) q0.1
    unfold stpn
    by_cases q : te B L i ≤ i + 2
    · rw [if_pos q, ns_x]
      by_cases q2 : te B L i = i + 2
      · rw [if_pos q2]
        have a2 := (te_c2 hl q2).2
        have m1 : ¬ (B i = 110 ∧ B (i + 1) = 101) := fun z => n1 ⟨by omega, z.1, z.2, a2⟩
        have m3 : ¬ (B i = 115 ∧ B (i + 1) = 101) := fun z => n3 ⟨by omega, z.1, z.2, a2⟩
        have m5 : ¬ (B i = 115 ∧ B (i + 1) = 119) := fun z => n5 ⟨by omega, z.1, z.2, a2⟩
        have m7 : ¬ (B i = 110 ∧ B (i + 1) = 119) := fun z => n7 ⟨by omega, z.1, z.2, a2⟩
        have hd := (te_c2 hl q2).1.2.1
        rw [if_neg (by omega), if_neg m1, if_neg (by omega), if_neg m3, if_neg (by omega), if_neg m5, if_neg (by omega), if_neg m7]
      · rw [if_neg q2]
        have a1 := te_c1 (L := L) hl (by omega)
        have m0 : B i ≠ 110 := fun z => n0 ⟨by omega, z, a1⟩
        have m2 : B i ≠ 101 := fun z => n2 ⟨by omega, z, a1⟩
        have m4 : B i ≠ 115 := fun z => n4 ⟨by omega, z, a1⟩
        have m6 : B i ≠ 119 := fun z => n6 ⟨by omega, z, a1⟩
        clear a1
        rw [if_neg (by omega), if_neg (by omega), if_neg (by omega), if_neg (by omega), if_neg (by omega), if_neg (by omega), if_neg (by omega), if_neg (by omega)]
    · rw [if_neg q]
  · rw [if_neg q0]
theorem rs_fail {B : Nat → Int} {L p : Nat} {b : Int} {w : Nat → Int} {la : Nat} {x y : Int} (hb : b = 0 ∨ b = 1 ∨ b = 2) (hp : p ≤ L) (hs : ¬ (p < L ∧ 32 ≤ B p ∧ B p ≤ 32)) (hnx : b ≠ 0 → p < L ∧ B p ≠ 59 ∧ (b = 1 → ¬ (48 ≤ B p ∧ B p ≤ 57))) (hno : p < L → (97 ≤ B p ∧ B p ≤ 122) → stpn B p (te B L p) ≠ -1 → w (stpn B p (te B L p)).toNat ≠ 0) : (run B L p b w la x y).1 = (p : Int) := by
  by_cases q : p < L
  · rw [run_none q (by omega) ?_]
    by_cases hl : 97 ≤ B p ∧ B p ≤ 122
    · exact tr_stepN hl (by omega) (fun z => hno q hl z.2.1 z.2.2)
    · by_cases hd : 48 ≤ B p ∧ B p ≤ 57
      · by_cases he : te B L p = p + 1
        · rw [tr_num hd he, if_neg (fun z => (hnx (by omega)).2.2 z.1 hd), if_neg (by omega), if_neg (by omega)]
        · exact tr_numN hd he
      · exact tr_else hl hd (fun z => (hnx (by omega)).2.1 z.1)
  · rw [run_end q]
    have : b = 0 := by
      rcases hb with h | h | h
      · exact h
      · exact absurd (hnx (by omega)).1 q
      · exact absurd (hnx (by omega)).1 q
    rw [if_neg (by omega)]
    show (L : Int) = p
    omega
theorem rs_ok {B : Nat → Int} {L p : Nat} {b : Int} {w : Nat → Int} {la : Nat} {x y : Int} (hb : b = 0 ∨ b = 1 ∨ b = 2) (hp : p < L) (hl : 97 ≤ B p ∧ B p ≤ 122) (h1 : stpn B p (te B L p) ≠ -1) (h2 : w (stpn B p (te B L p)).toNat = 0) : run B L p b w la x y = run B L (rn 32 32 B L (te B L p)) 1 (upi w (stpn B p (te B L p)).toNat 1) (stpn B p (te B L p)).toNat x y := by
  rw [run_some hp (by omega) (tr_step hl (by omega) ⟨by omega, h1, h2⟩), run_sk]
theorem rs_dig {B : Nat → Int} {L p : Nat} {w : Nat → Int} {la : Nat} {x y : Int} (hp : p < L) (hd : 48 ≤ B p ∧ B p ≤ 57) (he : rn 48 57 B L p = p + 1) (h0 : B p ≠ 48) : run B L p 1 w la x y = run B L (rn 48 57 B L p) 2 (upi w la (B p - 48)) la x y := by
  have e := te_dig hp hd
  rw [run_some hp (by omega) ((tr_num hd (by omega)).trans (if_pos ⟨rfl, h0⟩)), e]
theorem rs_digN {B : Nat → Int} {L p : Nat} {w : Nat → Int} {la : Nat} {x y : Int} (hp : p < L) (hd : 48 ≤ B p ∧ B p ≤ 57) (h : ¬ (rn 48 57 B L p = p + 1 ∧ B p ≠ 48)) : (run B L p 1 w la x y).1 = (p : Int) := by
  have e := te_dig hp hd
  rw [run_none hp (by omega) ?_]
  by_cases he : te B L p = p + 1
  · rw [tr_num hd he, if_neg (by omega), if_neg (by omega), if_neg (by omega)]
  · exact tr_numN hd he
theorem rs_semi {B : Nat → Int} {L p : Nat} {b : Int} {w : Nat → Int} {la : Nat} {x y : Int} (hp : p < L) (h : B p = 59) (hb : b = 1 ∨ b = 2) : run B L p b w la x y = run B L (rn 32 32 B L (p + 1)) 3 w la x y := by
  rw [run_some hp (by omega) (tr_semi h hb), run_sk]
  have e : te B L p = p + 1 := by unfold te; rw [if_neg (by omega), if_neg (by omega)]
  rw [e]
theorem rs_from {B : Nat → Int} {L p : Nat} {w : Nat → Int} {la : Nat} {x y : Int} (hm : mw4 B L p) : run B L p 3 w la x y = run B L (rn 32 32 B L (p + 4)) 4 w la x y := by
  obtain ⟨hp, h, hn⟩ := hm
  have e : te B L p = p + 4 := te_4 (by omega) (by omega) (by omega) (by omega) hn
  rw [run_some (by omega) (by omega) (tr_from (by omega) rfl ⟨e, h.1, h.2.1, h.2.2.1, h.2.2.2⟩), run_sk, e]
theorem rs_fromN {B : Nat → Int} {L p : Nat} {w : Nat → Int} {la : Nat} {x y : Int} (hp : p ≤ L) (hs : ¬ (p < L ∧ 32 ≤ B p ∧ B p ≤ 32)) (h : ¬ mw4 B L p) : (run B L p 3 w la x y).1 = (p : Int) := by
  by_cases q : p < L
  · rw [run_none q (by omega) (tr_bad (Or.inl rfl) (fun _ z => h ?_) (fun z => by omega))]
    obtain ⟨h1, h2⟩ := te_c4 z.1 q z.2.1
    exact ⟨h1, z.2.2, h2⟩
  · rw [run_end q, if_neg (by omega)]
    show (L : Int) = p
    omega
theorem rs_x {B : Nat → Int} {L p : Nat} {w : Nat → Int} {la : Nat} {x y : Int} (hp : p < L) (hd : 48 ≤ B p ∧ B p ≤ 57) (he : rn 48 57 B L p = p + 1) : run B L p 4 w la x y = run B L (rn 48 57 B L p) 5 w la (B p - 48) y := by
  have e := te_dig hp hd
  rw [run_some hp (by omega) ((tr_num hd (by omega)).trans ((if_neg (by omega)).trans (if_pos rfl))), e]
theorem rs_y {B : Nat → Int} {L p : Nat} {w : Nat → Int} {la : Nat} {x y : Int} (hp : p < L) (hd : 48 ≤ B p ∧ B p ≤ 57) (he : rn 48 57 B L p = p + 1) : run B L p 5 w la x y = run B L (rn 48 57 B L p) 6 w la x (B p - 48) := by
  have e := te_dig hp hd
  rw [run_some hp (by omega) ((tr_num hd (by omega)).trans ((if_neg (by omega)).trans ((if_neg (by omega)).trans (if_pos rfl)))), e]
theorem rs_xyN {B : Nat → Int} {L p : Nat} {b : Int} {w : Nat → Int} {la : Nat} {x y : Int} (hb : b = 4 ∨ b = 5) (hp : p ≤ L) (hs : ¬ (p < L ∧ 32 ≤ B p ∧ B p ≤ 32)) (he : rn 48 57 B L p ≠ p + 1) : (run B L p b w la x y).1 = (p : Int) := by
  by_cases q : p < L
  · rw [run_none q (by omega) (tr_bad (by omega) (fun z => by omega) (fun _ z => ?_))]
    rw [te_dig q z.1] at z; exact he z.2
  · rw [run_end q, if_neg (by omega)]
    show (L : Int) = p
    omega
theorem rs_6 {B : Nat → Int} {L p : Nat} {w : Nat → Int} {la : Nat} {x y : Int} (hp : p < L) (hs : B p ≠ 32) : (run B L p 6 w la x y).1 = (p : Int) := by
  rw [run_none hp hs (tr_bad (by omega) (fun z => by omega) (fun z => by omega))]
theorem rs_end {B : Nat → Int} {L p : Nat} {b : Int} {w : Nat → Int} {la : Nat} {x y : Int} (hp : ¬ p < L) (hb : b = 1 ∨ b = 2 ∨ b = 6) : run B L p b w la x y = (-1, w, x, y) := by
  rw [run_end hp, if_pos hb]
/-- what is read so far, and the rest of it -/
def RSt (B : Nat → Int) (L p : Nat) (rd : Nat → Int32) (x y : Int) (R : Int × (Nat → Int) × Int × Int) : Prop := ∃ (b1 : Int) (l1 : Nat) (w1 : Nat → Int), (∀ k : Nat, k < 8 → (rd k).toInt = w1 k ∧ 0 ≤ w1 k ∧ w1 k ≤ 9) ∧ (b1 = 1 ∨ b1 = 2) ∧ (b1 = 1 → ¬ (rn 32 32 B L p < L ∧ (48 ≤ B (rn 32 32 B L p) ∧ B (rn 32 32 B L p) ≤ 57))) ∧ run B L p b1 w1 l1 x y = R
theorem rst_i {B : Nat → Int} {L p : Nat} {rd : Nat → Int32} {x y : Int} {R : Int × (Nat → Int) × Int × Int} (b1 : Int) (l1 : Nat) (w1 : Nat → Int) (h1 : ∀ k : Nat, k < 8 → (rd k).toInt = w1 k ∧ 0 ≤ w1 k ∧ w1 k ≤ 9) (h2 : b1 = 1 ∨ b1 = 2) (h3 : b1 = 1 → ¬ (rn 32 32 B L p < L ∧ (48 ≤ B (rn 32 32 B L p) ∧ B (rn 32 32 B L p) ≤ 57))) (h4 : run B L p b1 w1 l1 x y = R) : RSt B L p rd x y R := ⟨b1, l1, w1, h1, h2, h3, h4⟩
