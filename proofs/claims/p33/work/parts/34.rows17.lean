/-! ===== the model's grid exactly ===== -/
section LRows
variable {p : Program} {l : Launch} {e : Env} {R : Room} {s : State} {m : MethodId} {args : Array Value} {below : List Frame} {meth : Method} {c : Code} {H : Heap} {locs : List Loc} {cells slots : Nat} {Q : State → Prop}
variable {cc : ByteArray} {nL pc : Nat} {ls : Array Slot} {rest : List Value} {D : va_G} {G : Nat → Nat} {b0 a : Nat} {f f0 : hM} {own : String} {H0 : Heap} {τ : Nat → Nat} {β : Int} {tg : Nat} {S : List Nat}
abbrev lrw (G : Nat → Nat) (n : Nat) (r : Nat → Int64) : va_E → Prop := eqc (.inl (G 2, n, .inr (.inl r)))
theorem e_lald (C : hC p s m args meth c cc nL own D G b0) (h : hw D b0 H0 f H locs) (t : TI G β τ f) {n : Nat} (ha : τ a = tg) (h0 : tg ≠ 0) (hT : ∀ e, wf G β τ tg e → isLA G n e) {r : Nat → Int64} (hr : atp f a (lrw G n r)) {i : Int32} (hin : vp_in i n) (hdg : decode cc pc = .ok (.laload, 1)) (kk : ∀ x : Int64, x = r i.toInt.toNat → W p l e R s m args below meth c H locs cells slots Q (F0 m (pc + 1) ls (.long x :: rest))) : W p l e R s m args below meth c H locs cells slots Q (F0 m pc ls (.int i :: .ref a :: rest)) :=
  q_lald C h (eqc_some hr) hin hdg (kk _ rfl)
theorem e_last (C : hC p s m args meth c cc nL own D G b0) (h : hw D b0 H0 f H locs) (t : TI G β τ f) (o : Fr S τ f0 f) {n : Nat} (ha : τ a = tg) (h0 : tg ≠ 0) (hS : tg ∈ S) (hT : ∀ e, wf G β τ tg e → isLA G n e) (hT2 : ∀ e, isLA G n e → wf G β τ tg e) {r : Nat → Int64} (hr : atp f a (lrw G n r)) {i : Int32} {x : Int64} (hin : vp_in i n) (hdg : decode cc pc = .ok (.lastore, 1)) (kk : ∀ (r1 : Nat → Int64) (f1 : hM), r1 = vp_updL r i.toInt.toNat x → ∀ (H1 : Heap) (locs1 : List Loc), hw D b0 H0 f1 H1 locs1 → TI G β τ f1 → Fr S τ f0 f1 → (∀ q, τ q ≠ tg → f1 q = f q) → (∀ q, q ≠ a → f1 q = f q) → atp f1 a (lrw G n r1) → W p l e R s m args below meth c H1 locs1 cells slots Q (F0 m (pc + 1) ls rest)) : W p l e R s m args below meth c H locs cells slots Q (F0 m pc ls (.long x :: .int i :: .ref a :: rest)) :=
  q_last C h (eqc_some hr) hin hdg (fun H1 locs1 h9 => kk _ _ rfl H1 locs1 h9 (t.up ha (hT2 _ ⟨_, rfl⟩)) (o.upA ha hS (eqc_some hr)) (hu_tg ha _) (fun q hq => hu_ne hq) ⟨_, hu_self _ _ _, rfl⟩)
end LRows
theorem la_get {G τ : Nat → Nat} {f : hM} {a tg n : Nat} (t : TI G 9 τ f) (ha : τ a = tg) (h0 : tg ≠ 0) (hT : ∀ e, wf G 9 τ tg e → isLA G n e) : ∃ r : Nat → Int64, atp f a (lrw G n r) := by
  obtain ⟨x, h1, h2⟩ := t.at ha h0
  obtain ⟨r, rfl⟩ := hT _ h2
  exact ⟨r, _, h1, rfl⟩
theorem updL_at {r : Nat → Int64} {k i : Nat} {x : Int64} (h : k = i) : vp_updL r i x k = x := if_pos h
theorem updL_off {r : Nat → Int64} {k i : Nat} {x : Int64} (h : ¬ k = i) : vp_updL r i x k = r k := if_neg h
def ddx (s : Int) : Int := if s = 0 ∨ s = 4 then 0 else if s < 4 then 1 else -1
def ddy (s : Int) : Int := if s = 2 ∨ s = 6 then 0 else if s < 2 ∨ s = 7 then 1 else -1
theorem ddx_iv (s : Int) : -1 ≤ ddx s ∧ ddx s ≤ 1 := by unfold ddx; (repeat' split) <;> omega
theorem ddy_iv (s : Int) : -1 ≤ ddy s ∧ ddy s ≤ 1 := by unfold ddy; (repeat' split) <;> omega
abbrev insd (p x y : Int) : Prop := (p = 0 → 0 ≤ x ∧ 0 ≤ y) ∧ (p = 1 → 0 ≤ y) ∧ (p = 3 → 0 ≤ x)
def cel (x y : Int) : Nat := (140 * (x + 65) + y + 65).toNat
/-- a number with one more -/
def wth (v more : Int64) (w : Int32) (so : Int) : Int64 := if so = 1 then (v + more * w.toInt64) - (v + more * w.toInt64) / 1000003 * 1000003 else if so = 2 then v + more * w.toInt64 else if so = 3 then v + more else 1
def gS (rb : Nat → Int32) (u pl so x y : Int) (v : Int64) : Nat → (Nat → Int64) → (Nat → Int64)
  | 0, r => r
  | s + 1, r => if 0 < (rb (10 * u + s).toNat).toInt ∧ insd pl (x + ddx s) (y + ddy s) ∧ cel (x + ddx s) (y + ddy s) < 19600 then vp_updL (gS rb u pl so x y v s r) (cel (x + ddx s) (y + ddy s)) (wth (gS rb u pl so x y v s r (cel (x + ddx s) (y + ddy s))) v (rb (10 * u + s).toNat) so) else gS rb u pl so x y v s r
def gY (rb : Nat → Int32) (u pl so : Int) (g : Nat → Int64) (x yb : Int) : Nat → (Nat → Int64) → (Nat → Int64)
  | 0, r => r
  | j + 1, r => if cel x (yb + j) < 19600 ∧ g (cel x (yb + j)) ≠ 0 then gS rb u pl so x (yb + j) (g (cel x (yb + j))) 8 (gY rb u pl so g x yb j r) else gY rb u pl so g x yb j r
def gX (rb : Nat → Int32) (u pl so : Int) (g : Nat → Int64) (xb yb : Int) (m : Nat) : Nat → (Nat → Int64) → (Nat → Int64)
  | 0, r => r
  | i + 1, r => gY rb u pl so g (xb + i) yb m (gX rb u pl so g xb yb m i r)
/-- a step more -/
def gof (rb : Nat → Int32) (u pl so gn : Int) (g r : Nat → Int64) : Nat → Int64 := gX rb u pl so g ((rb (10 * u + 8).toNat).toInt - gn) ((rb (10 * u + 9).toNat).toInt - gn) (2 * gn + 1).toNat (2 * gn + 1).toNat r
def agr (r r2 : Nat → Int64) : Prop := ∀ k : Nat, k < 19600 → r k = r2 k
theorem agr.rf (r : Nat → Int64) : agr r r := fun _ _ => rfl
theorem agr.tr {r1 r2 r3 : Nat → Int64} (h : agr r1 r2) (h2 : agr r2 r3) : agr r1 r3 := fun k hk => (h k hk).trans (h2 k hk)
theorem agr.sy {r1 r2 : Nat → Int64} (h : agr r1 r2) : agr r2 r1 := fun k hk => (h k hk).symm
theorem gS_c {rb : Nat → Int32} {u pl so x y : Int} {v : Int64} {r r2 : Nat → Int64} (h : agr r r2) : ∀ s : Nat, agr (gS rb u pl so x y v s r) (gS rb u pl so x y v s r2)
  | 0 => h
  | s + 1 => fun k hk => by
    have ih := gS_c (rb := rb) (u := u) (pl := pl) (so := so) (x := x) (y := y) (v := v) h s
    rw [gS, gS]
    split
    · rename_i q
      by_cases e : k = cel (x + ddx s) (y + ddy s)
      · rw [updL_at e, updL_at e, ih _ q.2.2]
      · rw [updL_off e, updL_off e]; exact ih k hk
    · exact ih k hk
theorem gY_c {rb : Nat → Int32} {u pl so : Int} {g g2 : Nat → Int64} {x yb : Int} {r r2 : Nat → Int64} (hg : agr g g2) (h : agr r r2) : ∀ j : Nat, agr (gY rb u pl so g x yb j r) (gY rb u pl so g2 x yb j r2)
  | 0 => h
  | j + 1 => by
    have ih := gY_c (rb := rb) (u := u) (pl := pl) (so := so) (x := x) (yb := yb) hg h j
    rw [gY, gY]
    by_cases q : cel x (yb + j) < 19600
    · rw [hg _ q]
      split
      · exact gS_c ih 8
      · exact ih
    · rw [if_neg (fun z => q z.1), if_neg (fun z => q z.1)]; exact ih
theorem gX_c {rb : Nat → Int32} {u pl so : Int} {g g2 : Nat → Int64} {xb yb : Int} {m : Nat} {r r2 : Nat → Int64} (hg : agr g g2) (h : agr r r2) : ∀ i : Nat, agr (gX rb u pl so g xb yb m i r) (gX rb u pl so g2 xb yb m i r2)
  | 0 => h
  | i + 1 => by rw [gX, gX]; exact gY_c hg (gX_c hg h i) m
theorem gof_c {rb : Nat → Int32} {u pl so gn : Int} {g g2 r r2 : Nat → Int64} (hg : agr g g2) (h : agr r r2) : agr (gof rb u pl so gn g r) (gof rb u pl so gn g2 r2) := gX_c hg h _
theorem gS_s {rb : Nat → Int32} {u pl so x y : Int} {v : Int64} {r : Nat → Int64} {i z : Int} (h : 0 ≤ i) (hz : z = i + 1) : gS rb u pl so x y v z.toNat r = if 0 < (rb (10 * u + i).toNat).toInt ∧ insd pl (x + ddx i) (y + ddy i) ∧ cel (x + ddx i) (y + ddy i) < 19600 then vp_updL (gS rb u pl so x y v i.toNat r) (cel (x + ddx i) (y + ddy i)) (wth (gS rb u pl so x y v i.toNat r (cel (x + ddx i) (y + ddy i))) v (rb (10 * u + i).toNat) so) else gS rb u pl so x y v i.toNat r := by
  rw [show z.toNat = i.toNat + 1 by omega, gS, show ((i.toNat : Nat) : Int) = i by omega]
theorem gY_s {rb : Nat → Int32} {u pl so : Int} {g : Nat → Int64} {x yb : Int} {r : Nat → Int64} {y z : Int} (h : 0 ≤ y - yb) (hz : z = y + 1) : gY rb u pl so g x yb (z - yb).toNat r = if cel x y < 19600 ∧ g (cel x y) ≠ 0 then gS rb u pl so x y (g (cel x y)) 8 (gY rb u pl so g x yb (y - yb).toNat r) else gY rb u pl so g x yb (y - yb).toNat r := by
  rw [show (z - yb).toNat = (y - yb).toNat + 1 by omega, gY, show yb + (((y - yb).toNat : Nat) : Int) = y by omega]
theorem gX_s {rb : Nat → Int32} {u pl so : Int} {g : Nat → Int64} {xb yb : Int} {m : Nat} {r : Nat → Int64} {x z : Int} (h : 0 ≤ x - xb) (hz : z = x + 1) : gX rb u pl so g xb yb m (z - xb).toNat r = gY rb u pl so g x yb m (gX rb u pl so g xb yb m (x - xb).toNat r) := by
  rw [show (z - xb).toNat = (x - xb).toNat + 1 by omega, gX, show xb + (((x - xb).toNat : Nat) : Int) = x by omega]
/-- the beginning -/
def bgn (rb : Nat → Int32) (u : Int) (k : Nat) : Int64 := if k = cel (rb (10 * u + 8).toNat).toInt (rb (10 * u + 9).toNat).toInt then 1 else 0
/-- n steps -/
def gN (rb : Nat → Int32) (u pl so : Int) : Nat → (Nat → Int64)
  | 0 => bgn rb u
  | n + 1 => gof rb u pl so n (gN rb u pl so n) (fun _ => 0)
/-- all of a kind -/
abbrev ofk (rb : Nat → Int32) (u kd x y : Int) : Prop := kd = 0 ∨ (kd = 1 ∧ x = (rb (10 * u + 8).toNat).toInt ∧ y = (rb (10 * u + 9).toNat).toInt) ∨ (kd = 2 ∧ y = 0) ∨ (kd = 3 ∧ x = 0) ∨ (¬ (0 ≤ kd ∧ kd ≤ 3) ∧ x = y)
def sY (rb : Nat → Int32) (u kd : Int) (g : Nat → Int64) (x yb : Int) : Nat → Int64 → Int64
  | 0, r => r
  | j + 1, r => if ofk rb u kd x (yb + j) ∧ cel x (yb + j) < 19600 then sY rb u kd g x yb j r + g (cel x (yb + j)) else sY rb u kd g x yb j r
def sX (rb : Nat → Int32) (u kd : Int) (g : Nat → Int64) (xb yb : Int) (m : Nat) : Nat → Int64 → Int64
  | 0, r => r
  | i + 1, r => sY rb u kd g (xb + i) yb m (sX rb u kd g xb yb m i r)
def smf (rb : Nat → Int32) (u kd gn : Int) (g : Nat → Int64) : Int32 := (sX rb u kd g ((rb (10 * u + 8).toNat).toInt - gn) ((rb (10 * u + 9).toNat).toInt - gn) (2 * gn + 1).toNat (2 * gn + 1).toNat 0 - sX rb u kd g ((rb (10 * u + 8).toNat).toInt - gn) ((rb (10 * u + 9).toNat).toInt - gn) (2 * gn + 1).toNat (2 * gn + 1).toNat 0 / 1000003 * 1000003).toInt32
theorem sY_c {rb : Nat → Int32} {u kd : Int} {g g2 : Nat → Int64} {x yb : Int} {r : Int64} (hg : agr g g2) : ∀ j : Nat, sY rb u kd g x yb j r = sY rb u kd g2 x yb j r
  | 0 => rfl
  | j + 1 => by
    rw [sY, sY, sY_c hg j]
    split
    · rename_i q; rw [hg _ q.2]
    · rfl
theorem sX_c {rb : Nat → Int32} {u kd : Int} {g g2 : Nat → Int64} {xb yb : Int} {m : Nat} {r : Int64} (hg : agr g g2) : ∀ i : Nat, sX rb u kd g xb yb m i r = sX rb u kd g2 xb yb m i r
  | 0 => rfl
  | i + 1 => by rw [sX, sX, sX_c hg i, sY_c hg m]
theorem smf_c {rb : Nat → Int32} {u kd gn : Int} {g g2 : Nat → Int64} (hg : agr g g2) : smf rb u kd gn g = smf rb u kd gn g2 := by unfold smf; rw [sX_c hg]
theorem sY_s {rb : Nat → Int32} {u kd : Int} {g : Nat → Int64} {x yb : Int} {r : Int64} {y z : Int} (h : 0 ≤ y - yb) (hz : z = y + 1) : sY rb u kd g x yb (z - yb).toNat r = if ofk rb u kd x y ∧ cel x y < 19600 then sY rb u kd g x yb (y - yb).toNat r + g (cel x y) else sY rb u kd g x yb (y - yb).toNat r := by
  rw [show (z - yb).toNat = (y - yb).toNat + 1 by omega, sY, show yb + (((y - yb).toNat : Nat) : Int) = y by omega]
theorem sX_s {rb : Nat → Int32} {u kd : Int} {g : Nat → Int64} {xb yb : Int} {m : Nat} {r : Int64} {x z : Int} (h : 0 ≤ x - xb) (hz : z = x + 1) : sX rb u kd g xb yb m (z - xb).toNat r = sY rb u kd g x yb m (sX rb u kd g xb yb m (x - xb).toNat r) := by
  rw [show (z - xb).toNat = (x - xb).toNat + 1 by omega, sX, show xb + (((x - xb).toNat : Nat) : Int) = x by omega]
/-- the grid holds gf -/
def GRp (G τ : Nat → Nat) (f : hM) (u : Nat) (gf : Nat → Int64) : Prop := ∃ (ga gb : Nat) (r r2 : Nat → Int64), ga ≠ gb ∧ (τ ga = 67 ∧ τ gb = 67) ∧ atp f u (fd 12 (.ref ga)) ∧ atp f u (fd 13 (.ref gb)) ∧ atp f ga (lrw G 19600 r) ∧ atp f gb (lrw G 19600 r2) ∧ agr r gf
theorem GRp.tg {G τ : Nat → Nat} {f g : hM} {u tg : Nat} {gf : Nat → Int64} (h : GRp G τ f u gf) (hq : ∀ q, τ q ≠ tg → g q = f q) (hu : τ u = 60) (n : 60 ≠ tg ∧ 67 ≠ tg) : GRp G τ g u gf := by
  obtain ⟨ga, gb, r, r2, h1, h2, h3, h4, h5, h6, h7⟩ := h
  exact ⟨ga, gb, r, r2, h1, h2, h3.tg hq hu n.1, h4.tg hq hu n.1, h5.tg hq h2.1 n.2, h6.tg hq h2.2 n.2, h7⟩
theorem GRp.ng {G τ : Nat → Nat} {f : hM} {u : Nat} {gf : Nat → Int64} (h : GRp G τ f u gf) : NGs τ f u := by
  obtain ⟨ga, gb, r, r2, h1, h2, h3, h4, h5, h6, h7⟩ := h
  exact ⟨ga, gb, h1, h2, h3, h4⟩
theorem GRp.c {G τ : Nat → Nat} {f : hM} {u : Nat} {gf gf2 : Nat → Int64} (h : GRp G τ f u gf) (e : agr gf gf2) : GRp G τ f u gf2 := by
  obtain ⟨ga, gb, r, r2, h1, h2, h3, h4, h5, h6, h7⟩ := h
  exact ⟨ga, gb, r, r2, h1, h2, h3, h4, h5, h6, h7.tr e⟩
