/-! ===== fourth layer: a row of rows, texts of rows that are made ===== -/
/-- an int in a field -/
theorem t_fint {G : Nat → Nat} {β : Int} {τ : Nat → Nat} {f : hM} (t : TI G β τ f) {a tg ci k : Nat} {tys : List (Nat × Int × Int)} {lo hi : Int} (ha : τ a = tg) (h0 : tg ≠ 0) (hT : ∀ e, wf G β τ tg e → wo τ ci tys e) (hk : tys[k]? = some (0, lo, hi)) : ∃ x : Int32, iv x lo hi ∧ atp f a (fd k (.int x)) := by
  obtain ⟨x, h1, h2⟩ := t.at ha h0
  obtain ⟨fs, rfl, -, h3⟩ := hT _ h2
  obtain ⟨v, e1, q, rfl, e2⟩ := h3 k _ hk
  exact ⟨q, e2, _, h1, _, _, rfl, e1⟩
/-- a place of the class's rows that lies in a box -/
abbrev inb (sx sy rl rb rr rt : Int32) (k : Int) : Prop := rl.toInt ≤ k / 123 + sx.toInt - 61 ∧ k / 123 + sx.toInt - 61 ≤ rr.toInt ∧ rb.toInt ≤ k % 123 + sy.toInt - 61 ∧ k % 123 + sy.toInt - 61 ≤ rt.toInt
theorem inb_wd {sx sy rl rb rr rt sx1 sy1 rl1 rb1 rr1 rt1 : Int32} (h : (sx1.toInt = sx.toInt ∧ sy1.toInt = sy.toInt) ∧ rl1.toInt ≤ rl.toInt ∧ rb1.toInt ≤ rb.toInt ∧ rr.toInt ≤ rr1.toInt ∧ rt.toInt ≤ rt1.toInt) : ∀ k : Int, inb sx sy rl rb rr rt k → inb sx1 sy1 rl1 rb1 rr1 rt1 k := fun k q => by omega
/-- a row of longs that is 0 but where P is -/
def lw0 (n : Nat) (P : Int → Prop) (e : va_E) : Prop := ∃ (c : Nat) (r : Nat → Int64), e = .inl (c, n, .inr (.inl r)) ∧ ∀ k : Nat, k < n → ¬ P k → r k = 0
theorem atp.mono {f : hM} {a : Nat} {P Q : va_E → Prop} (h : atp f a P) (hq : ∀ e, P e → Q e) : atp f a Q := by
  obtain ⟨e, h1, h2⟩ := h
  exact ⟨e, h1, hq e h2⟩
theorem atp.nw {f : hM} {a q : Nat} {e : va_E} {P : va_E → Prop} (h : atp f a P) (hq : f q = none) : atp (hu f q e) a P := by
  obtain ⟨x, h1, h2⟩ := h
  exact ⟨x, by rw [hu_ne (fun z => by rw [z, hq] at h1; cases h1)]; exact h1, h2⟩
/-- the class's two grids are two, 0 but where P is -/
def GZ (τ : Nat → Nat) (f : hM) (g : Nat) (P : Int → Prop) : Prop := ∃ nq xq : Nat, nq ≠ xq ∧ (τ nq = 21 ∧ τ xq = 21) ∧ atp f g (fd 0 (.ref nq)) ∧ atp f g (fd 1 (.ref xq)) ∧ atp f nq (lw0 15129 P) ∧ atp f xq (lw0 15129 P)
theorem GZ.wd {τ : Nat → Nat} {f : hM} {g : Nat} {P Q : Int → Prop} (h : GZ τ f g P) (hP : ∀ k : Int, P k → Q k) : GZ τ f g Q := by
  obtain ⟨nq, xq, h1, h2, h3, h4, h5, h6⟩ := h
  have hw : ∀ e, lw0 15129 P e → lw0 15129 Q e := fun e q => by
    obtain ⟨c, r, q1, q2⟩ := q
    exact ⟨c, r, q1, fun k hk hn => q2 k hk (fun z => hn (hP k z))⟩
  exact ⟨nq, xq, h1, h2, h3, h4, h5.mono hw, h6.mono hw⟩
theorem GZ.fr {S : List Nat} {τ : Nat → Nat} {f g : hM} {a : Nat} {P : Int → Prop} (h : GZ τ f a P) (o : Fr S τ f g) (ha : τ a = 20) (n : 21 ∉ S ∧ 20001 ∉ S ∧ 20002 ∉ S) : GZ τ g a P := by
  obtain ⟨nq, xq, h1, ⟨t1, t2⟩, h3, h4, h5, h6⟩ := h
  exact ⟨nq, xq, h1, ⟨t1, t2⟩, h3.fk o ha (by decide) n.2.1, h4.fk o ha (by decide) n.2.2, h5.fr o t1 n.1, h6.fr o t2 n.1⟩
theorem GZ.tg {τ : Nat → Nat} {f g : hM} {a tg : Nat} {P : Int → Prop} (h : GZ τ f a P) (hq : ∀ q, τ q ≠ tg → g q = f q) (ha : τ a = 20) (n : 20 ≠ tg ∧ 21 ≠ tg) : GZ τ g a P := by
  obtain ⟨nq, xq, h1, ⟨t1, t2⟩, h3, h4, h5, h6⟩ := h
  exact ⟨nq, xq, h1, ⟨t1, t2⟩, h3.tg hq ha n.1, h4.tg hq ha n.1, h5.tg hq t1 n.2, h6.tg hq t2 n.2⟩
theorem GZ.pk {τ : Nat → Nat} {f g : hM} {a k : Nat} {P : Int → Prop} (h : GZ τ f a P) (hq : ∀ q, τ q ≠ 20 → g q = f q) (hk : ∀ j w, j ≠ k → atp f a (fd j w) → atp g a (fd j w)) (n1 : 0 ≠ k) (n2 : 1 ≠ k) : GZ τ g a P := by
  obtain ⟨nq, xq, h1, ⟨t1, t2⟩, h3, h4, h5, h6⟩ := h
  exact ⟨nq, xq, h1, ⟨t1, t2⟩, hk 0 _ n1 h3, hk 1 _ n2 h4, h5.tg hq t1 (by decide), h6.tg hq t2 (by decide)⟩
theorem GZ.new {τ : Nat → Nat} {f : hM} {a q : Nat} {e : va_E} {P : Int → Prop} (h : GZ τ f a P) (hq : f q = none) : GZ τ (hu f q e) a P := by
  obtain ⟨nq, xq, h1, h2, h3, h4, h5, h6⟩ := h
  exact ⟨nq, xq, h1, h2, h3.nw hq, h4.nw hq, h5.nw hq, h6.nw hq⟩
theorem GZ.ex {τ τ1 : Nat → Nat} {f : hM} {a : Nat} {P : Int → Prop} (h : GZ τ f a P) (x : Ex τ τ1) : GZ τ1 f a P := by
  obtain ⟨nq, xq, h1, ⟨t1, t2⟩, h5⟩ := h
  exact ⟨nq, xq, h1, ⟨x.at t1 (by decide), x.at t2 (by decide)⟩, h5⟩
/-- the grid's numbers, how they hang together -/
def GJ (τ : Nat → Nat) (f : hM) (g rq mq : Nat) : Prop := ∃ (sx sy rl rb rr rt ml mb mr mt : Int32), (τ rq = 23 ∧ τ mq = 22) ∧ (atp f g (fd 3 (.ref rq)) ∧ atp f g (fd 2 (.ref mq)) ∧ atp f g (fd 9 (.int sx)) ∧ atp f g (fd 10 (.int sy))) ∧ (atp f rq (fd 0 (.int rl)) ∧ atp f rq (fd 1 (.int rb)) ∧ atp f rq (fd 2 (.int rr)) ∧ atp f rq (fd 3 (.int rt))) ∧ (atp f mq (fd 0 (.int ml)) ∧ atp f mq (fd 1 (.int mb)) ∧ atp f mq (fd 2 (.int mr)) ∧ atp f mq (fd 3 (.int mt))) ∧
  (iv sx 0 9 ∧ iv sy 0 9 ∧ iv rl (-60) 69 ∧ iv rb (-60) 69 ∧ iv rr (-60) 69 ∧ iv rt (-60) 69 ∧ iv ml (-60) 69 ∧ iv mb (-60) 69 ∧ iv mr (-60) 69 ∧ iv mt (-60) 69) ∧
  (sx.toInt - 60 ≤ rl.toInt ∧ rr.toInt ≤ sx.toInt + 60 ∧ sy.toInt - 60 ≤ rb.toInt ∧ rt.toInt ≤ sy.toInt + 60) ∧ (sx.toInt - 60 ≤ ml.toInt ∧ mr.toInt ≤ sx.toInt + 60 ∧ sy.toInt - 60 ≤ mb.toInt ∧ mt.toInt ≤ sy.toInt + 60) ∧ GZ τ f g (inb sx sy rl rb rr rt)
theorem GJ.fr {S : List Nat} {τ : Nat → Nat} {f g : hM} {a rq mq : Nat} (h : GJ τ f a rq mq) (o : Fr S τ f g) (ha : τ a = 20) (n : ∀ x ∈ [20003, 20004, 20010, 20011, 22001, 22002, 22003, 22004, 23001, 23002, 23003, 23004, 21, 20001, 20002], x ∉ S) : GJ τ g a rq mq := by
  obtain ⟨sx, sy, rl, rb, rr, rt, ml, mb, mr, mt, ⟨q1, q2⟩, ⟨a1, a2, a3, a4⟩, ⟨b1, b2, b3, b4⟩, ⟨c1, c2, c3, c4⟩, h5, h6, h7, hz⟩ := h
  exact ⟨sx, sy, rl, rb, rr, rt, ml, mb, mr, mt, ⟨q1, q2⟩, ⟨a1.fk o ha (by decide) (n _ (by simp)), a2.fk o ha (by decide) (n _ (by simp)), a3.fk o ha (by decide) (n _ (by simp)), a4.fk o ha (by decide) (n _ (by simp))⟩, ⟨b1.fk o q1 (by decide) (n _ (by simp)), b2.fk o q1 (by decide) (n _ (by simp)), b3.fk o q1 (by decide) (n _ (by simp)), b4.fk o q1 (by decide) (n _ (by simp))⟩, ⟨c1.fk o q2 (by decide) (n _ (by simp)), c2.fk o q2 (by decide) (n _ (by simp)), c3.fk o q2 (by decide) (n _ (by simp)), c4.fk o q2 (by decide) (n _ (by simp))⟩, h5, h6, h7, hz.fr o ha ⟨n _ (by simp), n _ (by simp), n _ (by simp)⟩⟩
theorem GJ.tg {τ : Nat → Nat} {f g : hM} {a rq mq tg : Nat} (h : GJ τ f a rq mq) (hq : ∀ q, τ q ≠ tg → g q = f q) (ha : τ a = 20) (n : 20 ≠ tg ∧ 22 ≠ tg ∧ 23 ≠ tg ∧ 21 ≠ tg) : GJ τ g a rq mq := by
  obtain ⟨sx, sy, rl, rb, rr, rt, ml, mb, mr, mt, ⟨q1, q2⟩, ⟨a1, a2, a3, a4⟩, ⟨b1, b2, b3, b4⟩, ⟨c1, c2, c3, c4⟩, h5, h6, h7, hz⟩ := h
  exact ⟨sx, sy, rl, rb, rr, rt, ml, mb, mr, mt, ⟨q1, q2⟩, ⟨a1.tg hq ha n.1, a2.tg hq ha n.1, a3.tg hq ha n.1, a4.tg hq ha n.1⟩, ⟨b1.tg hq q1 n.2.2.1, b2.tg hq q1 n.2.2.1, b3.tg hq q1 n.2.2.1, b4.tg hq q1 n.2.2.1⟩, ⟨c1.tg hq q2 n.2.1, c2.tg hq q2 n.2.1, c3.tg hq q2 n.2.1, c4.tg hq q2 n.2.1⟩, h5, h6, h7, hz.tg hq ha ⟨n.1, n.2.2.2⟩⟩
theorem vm_asg (vm : Vm) (c : ClassId) : vm.assignable c c = true := by
  unfold Vm.assignable
  rw [Vm.assignableAux]
  simp only [beq_self_eq_true, Bool.true_or]
section VRows
variable {p : Program} {l : Launch} {e : Env} {R : Room} {s : State} {m : MethodId} {args : Array Value} {below : List Frame} {meth : Method} {c : Code} {H : Heap} {locs : List Loc} {cells slots : Nat} {Q : State → Prop}
variable {cc : ByteArray} {nL pc : Nat} {ls : Array Slot} {rest : List Value} {D : va_G} {G : Nat → Nat} {b0 a : Nat} {f f0 : hM} {own : String} {H0 : Heap} {τ : Nat → Nat} {β : Int} {tg : Nat} {S : List Nat}
theorem va_rfs (v : Nat) : va_rf (some v) = .ref v := rfl
theorem q_aastJ (C : hC p s m args meth c cc nL own D G b0) (h : hw D b0 H0 f H locs) {n v n2 : Nat} {r : Nat → Option Nat} {r2 : Nat → Int64} (hf : f a = some (.inl (G 6, n, .inr (.inr (.inr (.inr r)))))) (hv : f v = some (.inl (G 2, n2, .inr (.inl r2)))) {i : Int32} (hin : vp_in i n) (hdg : decode cc pc = .ok (.aastore, 1)) (kk : ∀ (H1 : Heap) (locs1 : List Loc), hw D b0 H0 (hu f a (.inl (G 6, n, .inr (.inr (.inr (.inr (va_up r i.toNatClampNeg (some v)))))))) H1 locs1 → W p l e R s m args below meth c H1 locs1 cells slots Q (F0 m (pc + 1) ls rest)) : W p l e R s m args below meth c H locs cells slots Q (F0 m pc ls (.ref v :: .int i :: .ref a :: rest)) := by
  have hE0 := C.2.2.2.2.2.1
  have hK := hE0.1
  have hlt : i.toNatClampNeg < n := Nat.not_le.mp fun q => hin (Or.inr q)
  have h0 : ¬ i < 0 := fun q => hin (Or.inl q)
  have g1 := h.1 v _ hv
  obtain ⟨comp, c6, k6, w1, -, w2, w3, w4⟩ := arrayOverA_spec (va_AOA.use (A := args) hE0.2.2.2.2.2.2.2.1)
  have x6 : s.vm.findClass ("[" ++ (FieldType.array .long).toString) = some (G 6) := (hK.2 6 _ rfl).2
  have x2 : s.vm.findClass (FieldType.array .long).toString = some (G 2) := (hK.2 2 _ rfl).2
  have e6 : c6 = G 6 := Option.some.inj (w4.symm.trans x6)
  have e2 : comp = G 2 := Option.some.inj (w1.symm.trans x2)
  subst e6; subst e2
  obtain ⟨-, kv, hkv, -⟩ := (hK.2 2 _ rfl).1 0 (fun _ => .long 0)
  refine W.aast C.1 C.2.1 (h.1 a _ hf) (fun q h => by cases h) (fun h => by cases h) w2 w3 rfl hkv ⟨h0, by show _ < (arrV _ _ _).slots.size; rw [arrV_size]; exact hlt⟩ g1 (fun q h => by cases h) hkv (vm_asg _ _) rfl rfl hdg fun H1 e z oq => ?_
  refine kk H1 _ (h.up hf ?_ z oq)
  show H1[a]? = some (vp_cell _ _)
  rw [e, vp_cell_q, vp_cell_q, arrV_store]
  congr 2
  funext q
  by_cases hq : q = i.toNatClampNeg
  · subst hq; simp [updV, va_up, va_rf]
  · simp [updV, va_up, hq]
theorem t_aastA (C : hC p s m args meth c cc nL own D G b0) (h : hw D b0 H0 f H locs) (t : TI G β τ f) (o : Fr S τ f0 f) (ha : τ a = 41) (hS : 41 ∈ S) {i : Int32} {v : Nat} (hin : vp_in i 32) (hv : τ v = 42) (hdg : decode cc pc = .ok (.aastore, 1)) (kk : ∀ (f1 : hM) (H1 : Heap) (locs1 : List Loc), hw D b0 H0 f1 H1 locs1 → TI G β τ f1 → Fr S τ f0 f1 → (∀ q, τ q ≠ 41 → f1 q = f q) → W p l e R s m args below meth c H1 locs1 cells slots Q (F0 m (pc + 1) ls rest)) : W p l e R s m args below meth c H locs cells slots Q (F0 m pc ls (.ref v :: .int i :: .ref a :: rest)) := by
  obtain ⟨y, h1, h2⟩ := t.at ha (by decide)
  obtain ⟨r, rfl, h3⟩ := wf_41 _ h2
  obtain ⟨y2, q1, q2⟩ := t.at hv (by decide)
  obtain ⟨r2, rfl⟩ := wf_42 _ q2
  refine q_aastJ C h h1 q1 hin hdg (fun H1 locs1 h9 => kk _ H1 locs1 h9 (t.up ha (fw_41 _ ⟨_, rfl, fun j hj => ?_⟩)) (o.upA ha hS h1) (hu_tg ha _))
  unfold va_up
  split
  · exact ⟨v, rfl, hv⟩
  · exact h3 j hj
end VRows
