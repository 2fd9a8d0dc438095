/-! ===== the law's invariant: what a call is given, what it leaves ===== -/
theorem mI.post {l : Launch} {y : MethodName} {cc : ByteArray} {n : Nat} {ty : FieldType} {rm : Room} {D : va_G} {G : Nat → Nat} {b0 : Nat} {f : hM} {av : List Value} {post post2 : Int32 → hM → Prop} (h : mI l y cc n ty rm D G b0 f av post) (hp : ∀ r f1, post r f1 → post2 r f1) : mI l y cc n ty rm D G b0 f av post2 :=
  Jvm.Free.MetFree.mono h (fun _ _ q => q) (fun _ _ _ _ _ q => q) (fun a s o t _ q => by
    obtain ⟨⟨⟨r, u, e1, h1, h2⟩, h3⟩, h4⟩ := q
    exact ⟨⟨⟨r, u, e1, hp r u h1, h2⟩, h3⟩, h4⟩)
theorem mL.post {l : Launch} {y : MethodName} {cc : ByteArray} {n : Nat} {rm : Room} {D : va_G} {G : Nat → Nat} {b0 : Nat} {f : hM} {av : List Value} {post post2 : Int64 → hM → Prop} (h : mL l y cc n rm D G b0 f av post) (hp : ∀ r f1, post r f1 → post2 r f1) : mL l y cc n rm D G b0 f av post2 :=
  Jvm.Free.MetFree.mono h (fun _ _ q => q) (fun _ _ _ _ _ q => q) (fun a s o t _ q => by
    obtain ⟨⟨⟨r, u, e1, h1, h2⟩, h3⟩, h4⟩ := q
    exact ⟨⟨⟨r, u, e1, hp r u h1, h2⟩, h3⟩, h4⟩)
theorem mV.post {l : Launch} {y : MethodName} {cc : ByteArray} {n : Nat} {rm : Room} {D : va_G} {G : Nat → Nat} {b0 : Nat} {f : hM} {av : List Value} {post post2 : hM → Prop} (h : mV l y cc n rm D G b0 f av post) (hp : ∀ f1, post f1 → post2 f1) : mV l y cc n rm D G b0 f av post2 :=
  Jvm.Free.MetFree.mono h (fun _ _ q => q) (fun _ _ _ _ _ q => q) (fun a s o t _ q => by
    obtain ⟨⟨⟨u, e1, h1, h2⟩, h3⟩, h4⟩ := q
    exact ⟨⟨⟨u, e1, hp u h1, h2⟩, h3⟩, h4⟩)
/-- fields by their kinds -/
theorem wo.ref {τ : Nat → Nat} {ci : Nat} {tys : List (Nat × Int × Int)} {e : va_E} (h : wo τ ci tys e) (k : Nat) {tg : Int} (hk : tys[k]? = some (2, tg, 0)) : ∃ q, τ q = tg.toNat ∧ fd k (.ref q) e := by
  obtain ⟨fs, rfl, -, h2⟩ := h
  obtain ⟨v, h3, q, rfl, h4⟩ := h2 k _ hk
  exact ⟨q, h4, _, _, rfl, h3⟩
theorem wo.int {τ : Nat → Nat} {ci : Nat} {tys : List (Nat × Int × Int)} {e : va_E} (h : wo τ ci tys e) (k : Nat) {lo hi : Int} (hk : tys[k]? = some (0, lo, hi)) : ∃ x : Int32, iv x lo hi ∧ fd k (.int x) e := by
  obtain ⟨fs, rfl, -, h2⟩ := h
  obtain ⟨v, h3, x, rfl, h4⟩ := h2 k _ hk
  exact ⟨x, h4, _, _, rfl, h3⟩
theorem TI.fref {G : Nat → Nat} {τ : Nat → Nat} {f : hM} (t : TI G 9 τ f) {a tg ci : Nat} {tys : List (Nat × Int × Int)} (ha : τ a = tg) (h0 : tg ≠ 0) (hT : ∀ e, wf G 9 τ tg e → wo τ ci tys e) (k : Nat) {tq : Int} (hk : tys[k]? = some (2, tq, 0)) : ∃ q, τ q = tq.toNat ∧ atp f a (fd k (.ref q)) := by
  obtain ⟨e, h1, h2⟩ := t.at ha h0
  obtain ⟨q, h3, h4⟩ := (hT e h2).ref k hk
  exact ⟨q, h3, e, h1, h4⟩
theorem TI.fint {G : Nat → Nat} {τ : Nat → Nat} {f : hM} (t : TI G 9 τ f) {a tg ci : Nat} {tys : List (Nat × Int × Int)} (ha : τ a = tg) (h0 : tg ≠ 0) (hT : ∀ e, wf G 9 τ tg e → wo τ ci tys e) (k : Nat) {lo hi : Int} (hk : tys[k]? = some (0, lo, hi)) : ∃ x : Int32, iv x lo hi ∧ atp f a (fd k (.int x)) := by
  obtain ⟨e, h1, h2⟩ := t.at ha h0
  obtain ⟨x, h3, h4⟩ := (hT e h2).int k hk
  exact ⟨x, h3, e, h1, h4⟩
theorem TI.ia {G : Nat → Nat} {τ : Nat → Nat} {f : hM} (t : TI G 9 τ f) {a tg n : Nat} {lo hi : Int} (ha : τ a = tg) (h0 : tg ≠ 0) (hT : ∀ e, wf G 9 τ tg e → isIA G n lo hi e) : ∃ r : Nat → Int32, atp f a (eqc (.inl (G 1, n, .inl r))) := by
  obtain ⟨e, h1, h2⟩ := t.at ha h0
  obtain ⟨r, rfl, -⟩ := hT e h2
  exact ⟨r, _, h1, rfl⟩
theorem TI.bk9 {G : Nat → Nat} {τ : Nat → Nat} {f : hM} (t : TI G 9 τ f) {a : Nat} (ha : τ a = 63) {rb : Nat → Int32} (h : atp f a (eqc (.inl (G 1, 81, .inl rb)))) : (∀ k : Nat, k < 80 → iv (rb k) 0 9) ∧ iv (rb 80) 0 8 := by
  obtain ⟨e, h1, h2⟩ := t.at ha (by decide)
  obtain ⟨r, rfl, h3, h4⟩ := wf_63 _ h2
  have e1 := eqc_some h
  rw [e1] at h1
  cases h1
  exact ⟨h3, h4⟩
/-- the law's world, the two states left open -/
def LB (G : Nat → Nat) (τ : Nat → Nat) (f : hM) (K sh qs M : Nat → Nat) (o : Nat) : Prop := TI G 9 τ f ∧ XK G τ f K sh qs ∧ GJ τ f (K 11) (K 12) (K 13) ∧ MK τ f M ∧ NGs τ f (M 0) ∧ τ o = 79
def LIP (G : Nat → Nat) (τ : Nat → Nat) (f : hM) (K sh qs M : Nat → Nat) (o : Nat) (P : Int → Int → Int → (Nat → Int) → (Nat → Int32) → (Nat → Int32) → (Nat → Int32) → Prop) : Prop :=
  LB G τ f K sh qs M o ∧ ∃ (ln ac hi : Int) (B : Nat → Int) (rb rk ri : Nat → Int32), MD G f M ln ac hi B rb rk ri ∧ P ln ac hi B rb rk ri
theorem LI.lp {G : Nat → Nat} {τ : Nat → Nat} {f : hM} {K sh qs M : Nat → Nat} {o : Nat} (h : LI G τ f K sh qs M o) : LIP G τ f K sh qs M o (fun ln ac hi B rb rk ri => XD G τ f K sh qs ln ac hi B rb rk ri) := by
  obtain ⟨t, X, g, m, ng, ho, ln, ac, hi, B, rb, rk, ri, xd, md, -⟩ := h
  exact ⟨⟨t, X, g, m, ng, ho⟩, ln, ac, hi, B, rb, rk, ri, md, xd⟩
theorem LI.of {G : Nat → Nat} {τ : Nat → Nat} {f : hM} {K sh qs M : Nat → Nat} {o : Nat} {ln ac hi : Int} {B : Nat → Int} {rb rk ri : Nat → Int32} (h : LB G τ f K sh qs M o) (xd : XD G τ f K sh qs ln ac hi B rb rk ri) (md : MD G f M ln ac hi B rb rk ri) (rQ : RQ G τ f K M (-1)) : LI G τ f K sh qs M o := by
  obtain ⟨t, X, g, m, ng, ho⟩ := h
  exact ⟨t, X, g, m, ng, ho, ln, ac, hi, B, rb, rk, ri, xd, md, rQ⟩
theorem LB.x {G : Nat → Nat} {τ τ1 : Nat → Nat} {f f1 : hM} {K sh qs M : Nat → Nat} {o : Nat} {S : List Nat} (h : LB G τ f K sh qs M o) (t1 : TI G 9 τ1 f1) (r : Fr S τ f f1) (x : Ex τ τ1) (ng : ∀ k ∈ GJn, k ∉ S) (n1 : ∀ k ∈ XKn, k ∉ S) (n3 : ∀ k ∈ MKn, k ∉ S) (n2 : 60013 ∉ S ∧ 60014 ∉ S) : LB G τ1 f1 K sh qs M o := by
  obtain ⟨t, X, g, m, ng0, ho⟩ := h
  exact ⟨t1, X.fr r x n1, (GJ.fr g r X.1.2.2.2.2.2.2.2.2.2.2.2 ng).ex x, m.fr r x n3, (ng0.fr r m.1.1 n2).ex x, x.at ho (by decide)⟩
theorem GJ.keep {τ : Nat → Nat} {f : hM} {a b c : Nat} (h : GJ τ f a b c) : GJ τ f a b c := h
/-- what may be written by an act of the class: no cell of the law's other shelves -/
def actA (K : Nat → Nat) (a b : Nat) : List Nat := [a, b, K 4, K 7, K 6, K 5, K 1, K 3]
theorem FX.wk {A1 A : List Nat} {f g : hM} (h : FX A1 f g) (hs : ∀ x ∈ A1, x ∈ A) : FX A f g := fun q hq h0 => h q (fun z => hq (hs q z)) h0
theorem actA_ok {G : Nat → Nat} {τ : Nat → Nat} {f : hM} {K sh qs : Nat → Nat} (X : XK G τ f K sh qs) {j0 : Nat} (h0 : j0 < 12) : (∀ a ∈ actA K (qs j0) (sh j0), τ a ≠ 1 ∧ τ a ≠ 2) ∧ (K 8 ∉ actA K (qs j0) (sh j0) ∧ K 9 ∉ actA K (qs j0) (sh j0)) ∧ ∀ j : Nat, j < 12 → j ≠ j0 → sh j ∉ actA K (qs j0) (sh j0) ∧ qs j ∉ actA K (qs j0) (sh j0) := by
  obtain ⟨⟨a0, a1, a2, a3, a4, a5, a6, a7, a8, a9, a10, a11⟩, -, -, d, ⟨e1, e2⟩, e3⟩ := X
  obtain ⟨d1, d2, -⟩ := d j0 h0
  have tt : ∀ {x y : Nat}, τ x ≠ τ y → x ≠ y := fun h z => h (by rw [z])
  have L : ∀ z : Nat, z ∉ actA K (qs j0) (sh j0) ↔ (z ≠ qs j0 ∧ z ≠ sh j0 ∧ z ≠ K 4 ∧ z ≠ K 7 ∧ z ≠ K 6 ∧ z ≠ K 5 ∧ z ≠ K 1 ∧ z ≠ K 3) := fun z => by simp [actA]
  refine ⟨fun a ha => ?_, ⟨(L _).mpr ⟨?_, ?_, ?_, ?_, ?_, ?_, ?_, ?_⟩, (L _).mpr ⟨?_, ?_, ?_, ?_, ?_, ?_, ?_, ?_⟩⟩, fun j hj hjn => ?_⟩
  · have : a = qs j0 ∨ a = sh j0 ∨ a = K 4 ∨ a = K 7 ∨ a = K 6 ∨ a = K 5 ∨ a = K 1 ∨ a = K 3 := by simpa [actA] using ha
    rcases this with rfl | rfl | rfl | rfl | rfl | rfl | rfl | rfl
    · rw [d2]; exact ⟨by decide, by decide⟩
    · rw [d1]; exact ⟨by decide, by decide⟩
    · rw [a4]; exact ⟨by decide, by decide⟩
    · rw [a7]; exact ⟨by decide, by decide⟩
    · rw [a6]; exact ⟨by decide, by decide⟩
    · rw [a5]; exact ⟨by decide, by decide⟩
    · rw [a1]; exact ⟨by decide, by decide⟩
    · rw [a3]; exact ⟨by decide, by decide⟩
  · exact tt (by rw [a8, d2]; decide)
  · exact tt (by rw [a8, d1]; decide)
  · exact tt (by rw [a8, a4]; decide)
  · exact tt (by rw [a8, a7]; decide)
  · exact tt (by rw [a8, a6]; decide)
  · exact tt (by rw [a8, a5]; decide)
  · exact tt (by rw [a8, a1]; decide)
  · exact tt (by rw [a8, a3]; decide)
  · exact (e2 j0 h0).2.symm
  · exact tt (by rw [a9, d1]; decide)
  · exact tt (by rw [a9, a4]; decide)
  · exact e1.symm
  · exact tt (by rw [a9, a6]; decide)
  · exact tt (by rw [a9, a5]; decide)
  · exact tt (by rw [a9, a1]; decide)
  · exact tt (by rw [a9, a3]; decide)
  · obtain ⟨g1, g2, -⟩ := d j hj
    obtain ⟨m1, m2⟩ := e3 j j0 hj h0 hjn
    refine ⟨(L _).mpr ⟨?_, m1, ?_, ?_, ?_, ?_, ?_, ?_⟩, (L _).mpr ⟨m2, ?_, ?_, (e2 j hj).1, ?_, ?_, ?_, ?_⟩⟩
    · exact tt (by rw [g1, d2]; decide)
    · exact tt (by rw [g1, a4]; decide)
    · exact tt (by rw [g1, a7]; decide)
    · exact tt (by rw [g1, a6]; decide)
    · exact tt (by rw [g1, a5]; decide)
    · exact tt (by rw [g1, a1]; decide)
    · exact tt (by rw [g1, a3]; decide)
    · exact tt (by rw [g2, d1]; decide)
    · exact tt (by rw [g2, a4]; decide)
    · exact tt (by rw [g2, a6]; decide)
    · exact tt (by rw [g2, a5]; decide)
    · exact tt (by rw [g2, a1]; decide)
    · exact tt (by rw [g2, a3]; decide)
theorem GJ.acts {τ τ1 : Nat → Nat} {f f1 : hM} {a b c : Nat} {S : List Nat} (h : GJ τ f a b c) (r : Fr S τ f f1) (x : Ex τ τ1) (ha : τ a = 20) (ng : ∀ k ∈ GJn, k ∉ S) : GJ τ1 f1 a b c := (GJ.fr h r ha ng).ex x
set_option maxRecDepth 20000 in
theorem lx_2 (l : Launch) (D : va_G) (G : Nat → Nat) (b0 : Nat) {τ : Nat → Nat} {f : hM} {K sh qs M : Nat → Nat} {o : Nat} (h : LI G τ f K sh qs M o) : mI l yX10_fault cX10_fault 1 (.int) rm_s_X10_faultX D G b0 f [.ref (K 0)] (fun _ f1 => ∃ τ1, LI G τ1 f1 K sh qs M o) := by
  obtain ⟨t, X, g, m, ng, ho, ln, ac, hi, B, rb, rk, ri, xd, md, rQ⟩ := id h
  obtain ⟨⟨a0, a1, a2, a3, a4, a5, a6, a7, a8, a9, a10, a11⟩, ⟨b0_, b1_, b2_, b3_, b4_, b5_, b6_, b7_, b8_, b9_, b10_⟩, ⟨rf, c1, c2⟩, dd, ⟨e1, e2⟩, e3⟩ := id X
  obtain ⟨⟨p0, p1, p2, p3, p4, p5⟩, q0_, q1_, q2_, q3_, q4_⟩ := id m
  obtain ⟨ln', ac', hi', nx, rt, ⟨i1, i2, i3, i4⟩, -, ⟨k1, k2, k3, k4, k5⟩, -⟩ := xd
  obtain ⟨sx, hsx, ksx⟩ := t.fint a1 (by decide) wf_11 3 rfl
  obtain ⟨sy, hsy, ksy⟩ := t.fint a1 (by decide) wf_11 4 rfl
  obtain ⟨bh, hbh, kbh⟩ := t.fint a1 (by decide) wf_11 5 rfl
  obtain ⟨la, hla, kla⟩ := t.fint a1 (by decide) wf_11 6 rfl
  obtain ⟨ww, hww⟩ := t.ia a3 (by decide) wf_14
  refine (s_X10_faultX l D G b0 τ f t (K 0) a0 (K 1) a1 b0_ ln' i1 k1 (K 2) a2 b4_ (K 3) a3 b5_ sx hsx ksx sy hsy ksy bh hbh kbh la hla kla rt k5 ww hww).post (fun r f1 hp => ?_)
  obtain ⟨-, t1, r1, -, -⟩ := hp
  exact ⟨τ, h.xg t1 r1 (Ex.rf τ) (by decide) (by decide) (by decide)⟩
set_option maxRecDepth 20000 in
theorem lm_2 (l : Launch) (D : va_G) (G : Nat → Nat) (b0 : Nat) {τ : Nat → Nat} {f : hM} {K sh qs M : Nat → Nat} {o : Nat} (h : LI G τ f K sh qs M o) : mI l yX11_fault cX11_fault 1 (.int) rm_s_X11_faultX D G b0 f [.ref (M 0)] (fun _ f1 => ∃ τ1, LI G τ1 f1 K sh qs M o) := by
  obtain ⟨t, X, g, m, ng, ho, ln, ac, hi, B, rb, rk, ri, xd, md, rQ⟩ := id h
  obtain ⟨⟨a0, a1, a2, a3, a4, a5, a6, a7, a8, a9, a10, a11⟩, ⟨b0_, b1_, b2_, b3_, b4_, b5_, b6_, b7_, b8_, b9_, b10_⟩, ⟨rf, c1, c2⟩, dd, ⟨e1, e2⟩, e3⟩ := id X
  obtain ⟨⟨p0, p1, p2, p3, p4, p5⟩, q0_, q1_, q2_, q3_, q4_⟩ := id m
  obtain ⟨ln', ac', hi', rt, ⟨i1, i2, i3⟩, ⟨e1_, e2_, e3_⟩, ⟨k1, k2, k3⟩, ⟨k4, k5, k6, k7⟩, hB⟩ := md
  obtain ⟨aa, haa, kaa⟩ := t.fint p0 (by decide) wf_60 3 rfl
  obtain ⟨fa, hfa, kfa⟩ := t.fint p0 (by decide) wf_60 4 rfl
  obtain ⟨rd, hrd⟩ := t.ia p5 (by decide) wf_62
  refine (s_X11_faultX l D G b0 τ f t (M 0) p0 ln' i1 k1 aa haa kaa (M 1) p1 q0_ fa hfa kfa (M 5) p5 q4_ rt k4 rd hrd B (fun k hk => hB k (by rw [← e1_]; exact hk))).post (fun r f1 hp => ?_)
  obtain ⟨-, t1, r1, -⟩ := hp
  exact ⟨τ, h.mq t1 r1 (ng.fr r1 p0 (by decide)) (by decide) (by decide)⟩
set_option maxRecDepth 20000 in
theorem lm_11 (l : Launch) (D : va_G) (G : Nat → Nat) (b0 : Nat) {τ : Nat → Nat} {f : hM} {K sh qs M : Nat → Nat} {o : Nat} (h : LI G τ f K sh qs M o) (u1 : Int32) (u2 : Int32) : mI l yX11_rule cX11_rule 3 (.int) rm_s_X11_rule D G b0 f [.ref (M 0), .int u1, .int u2] (fun _ f1 => ∃ τ1, LI G τ1 f1 K sh qs M o) := by
  obtain ⟨t, X, g, m, ng, ho, ln, ac, hi, B, rb, rk, ri, xd, md, rQ⟩ := id h
  obtain ⟨⟨a0, a1, a2, a3, a4, a5, a6, a7, a8, a9, a10, a11⟩, ⟨b0_, b1_, b2_, b3_, b4_, b5_, b6_, b7_, b8_, b9_, b10_⟩, ⟨rf, c1, c2⟩, dd, ⟨e1, e2⟩, e3⟩ := id X
  obtain ⟨⟨p0, p1, p2, p3, p4, p5⟩, q0_, q1_, q2_, q3_, q4_⟩ := id m
  refine (s_X11_rule l D G b0 τ f t (M 0) p0 u1 (iv_any _) u2 (iv_any _)).post (fun r f1 hp => ?_)
  obtain ⟨-, t1, r1⟩ := hp
  exact ⟨τ, h.mq t1 r1 (ng.fr r1 p0 (by decide)) (by decide) (by decide)⟩
set_option maxRecDepth 20000 in
theorem lx_13 (l : Launch) (D : va_G) (G : Nat → Nat) (b0 : Nat) {τ : Nat → Nat} {f : hM} {K sh qs M : Nat → Nat} {o : Nat} (h : LI G τ f K sh qs M o) (u1 : Int32) (u2 : Int32) (u3 : Int32) : mI l yX10_series cX10_series 5 (.int) rm_s_X10_series D G b0 f [.ref (K 0), .int u1, .int u2, .int u3] (fun _ f1 => ∃ τ1, LI G τ1 f1 K sh qs M o) := by
  obtain ⟨t, X, g, m, ng, ho, ln, ac, hi, B, rb, rk, ri, xd, md, rQ⟩ := id h
  obtain ⟨⟨a0, a1, a2, a3, a4, a5, a6, a7, a8, a9, a10, a11⟩, ⟨b0_, b1_, b2_, b3_, b4_, b5_, b6_, b7_, b8_, b9_, b10_⟩, ⟨rf, c1, c2⟩, dd, ⟨e1, e2⟩, e3⟩ := id X
  obtain ⟨⟨p0, p1, p2, p3, p4, p5⟩, q0_, q1_, q2_, q3_, q4_⟩ := id m
  refine (s_X10_series l D G b0 τ f t (K 0) a0 u1 (iv_any _) u2 (iv_any _) u3 (iv_any _) (K 11) (K 12) (K 13) a11 b2_ g).post (fun r f1 hp => ?_)
  obtain ⟨τ1, x1, -, t1, r1, g1⟩ := hp
  exact ⟨τ1, h.xq t1 r1 x1 g1 (by decide) (by decide)⟩
set_option maxRecDepth 20000 in
theorem lm_13 (l : Launch) (D : va_G) (G : Nat → Nat) (b0 : Nat) {τ : Nat → Nat} {f : hM} {K sh qs M : Nat → Nat} {o : Nat} (h : LI G τ f K sh qs M o) (u1 : Int32) (u2 : Int32) (u3 : Int32) : mI l yX11_series cX11_series 4 (.int) rm_s_X11_series D G b0 f [.ref (M 0), .int u1, .int u2, .int u3] (fun _ f1 => ∃ τ1, LI G τ1 f1 K sh qs M o) := by
  obtain ⟨t, X, g, m, ng, ho, ln, ac, hi, B, rb, rk, ri, xd, md, rQ⟩ := id h
  obtain ⟨⟨a0, a1, a2, a3, a4, a5, a6, a7, a8, a9, a10, a11⟩, ⟨b0_, b1_, b2_, b3_, b4_, b5_, b6_, b7_, b8_, b9_, b10_⟩, ⟨rf, c1, c2⟩, dd, ⟨e1, e2⟩, e3⟩ := id X
  obtain ⟨⟨p0, p1, p2, p3, p4, p5⟩, q0_, q1_, q2_, q3_, q4_⟩ := id m
  refine (s_X11_series l D G b0 τ f t (M 0) p0 u1 (iv_any _) u2 (iv_any _) u3 (iv_any _) ng).post (fun r f1 hp => ?_)
  obtain ⟨-, t1, r1, n1⟩ := hp
  exact ⟨τ, h.mq t1 r1 n1 (by decide) (by decide)⟩
set_option maxRecDepth 20000 in
theorem lx_14 (l : Launch) (D : va_G) (G : Nat → Nat) (b0 : Nat) {τ : Nat → Nat} {f : hM} {K sh qs M : Nat → Nat} {o : Nat} (h : LI G τ f K sh qs M o) (u1 : Int32) (u2 : Int32) (u3 : Int32) (u4 : Int32) : mL l yX10_exact cX10_exact 6 rm_s_X10_exact D G b0 f [.ref (K 0), .int u1, .int u2, .int u3, .int u4] (fun _ f1 => ∃ τ1, LI G τ1 f1 K sh qs M o) := by
  obtain ⟨t, X, g, m, ng, ho, ln, ac, hi, B, rb, rk, ri, xd, md, rQ⟩ := id h
  obtain ⟨⟨a0, a1, a2, a3, a4, a5, a6, a7, a8, a9, a10, a11⟩, ⟨b0_, b1_, b2_, b3_, b4_, b5_, b6_, b7_, b8_, b9_, b10_⟩, ⟨rf, c1, c2⟩, dd, ⟨e1, e2⟩, e3⟩ := id X
  obtain ⟨⟨p0, p1, p2, p3, p4, p5⟩, q0_, q1_, q2_, q3_, q4_⟩ := id m
  refine (s_X10_exact l D G b0 τ f t (K 0) a0 u1 (iv_any _) u2 (iv_any _) u3 (iv_any _) u4 (iv_any _) (K 11) (K 12) (K 13) a11 b2_ g).post (fun r f1 hp => ?_)
  obtain ⟨t1, r1, g1⟩ := hp
  exact ⟨τ, h.xq t1 r1 (Ex.rf τ) g1 (by decide) (by decide)⟩
set_option maxRecDepth 20000 in
theorem lm_14 (l : Launch) (D : va_G) (G : Nat → Nat) (b0 : Nat) {τ : Nat → Nat} {f : hM} {K sh qs M : Nat → Nat} {o : Nat} (h : LI G τ f K sh qs M o) (u1 : Int32) (u2 : Int32) (u3 : Int32) (u4 : Int32) : mL l yX11_exact cX11_exact 5 rm_s_X11_exact D G b0 f [.ref (M 0), .int u1, .int u2, .int u3, .int u4] (fun _ f1 => ∃ τ1, LI G τ1 f1 K sh qs M o) := by
  obtain ⟨t, X, g, m, ng, ho, ln, ac, hi, B, rb, rk, ri, xd, md, rQ⟩ := id h
  obtain ⟨⟨a0, a1, a2, a3, a4, a5, a6, a7, a8, a9, a10, a11⟩, ⟨b0_, b1_, b2_, b3_, b4_, b5_, b6_, b7_, b8_, b9_, b10_⟩, ⟨rf, c1, c2⟩, dd, ⟨e1, e2⟩, e3⟩ := id X
  obtain ⟨⟨p0, p1, p2, p3, p4, p5⟩, q0_, q1_, q2_, q3_, q4_⟩ := id m
  obtain ⟨ln', ac', hi', rt, -, -, -, ⟨k4, k5, k6, k7⟩, hB⟩ := md
  obtain ⟨-, -, -, -, -, -, -, -, -, ⟨sz, ρ, -, -, -, z1, -, z2⟩, -⟩ := xd
  have hpos : ∀ j : Nat, (j : Int) < (rb 80).toInt → ∃ k : Nat, k < 8 ∧ ∀ x : Int32, x.toInt = 10 * j + k → 0 < (rb x.toNatClampNeg).toInt := fun j hj => by
    obtain ⟨k, y1, y2⟩ := z2 j (by omega)
    refine ⟨k, y1, fun x hx => ?_⟩
    rw [show x.toNatClampNeg = 10 * j + k from by show x.toInt.toNat = _; omega]
    exact y2
  refine (s_X11_exact l D G b0 τ f t (M 0) p0 u1 (iv_any _) u2 (iv_any _) u3 (iv_any _) u4 (iv_any _) ng (M 2) p2 q1_ rb k5 hpos).post (fun r f1 hp => ?_)
  obtain ⟨t1, r1, n1⟩ := hp
  exact ⟨τ, h.mq t1 r1 n1 (by decide) (by decide)⟩
set_option maxRecDepth 20000 in
theorem lx_15 (l : Launch) (D : va_G) (G : Nat → Nat) (b0 : Nat) {τ : Nat → Nat} {f : hM} {K sh qs M : Nat → Nat} {o : Nat} (h : LI G τ f K sh qs M o) (u1 : Int32) (u2 : Int32) (u3 : Int32) (u4 : Int32) : mI l yX10_bridge cX10_bridge 6 (.int) rm_s_X10_bridge D G b0 f [.ref (K 0), .int u1, .int u2, .int u3, .int u4] (fun _ f1 => ∃ τ1, LI G τ1 f1 K sh qs M o) := by
  obtain ⟨t, X, g, m, ng, ho, ln, ac, hi, B, rb, rk, ri, xd, md, rQ⟩ := id h
  obtain ⟨⟨a0, a1, a2, a3, a4, a5, a6, a7, a8, a9, a10, a11⟩, ⟨b0_, b1_, b2_, b3_, b4_, b5_, b6_, b7_, b8_, b9_, b10_⟩, ⟨rf, c1, c2⟩, dd, ⟨e1, e2⟩, e3⟩ := id X
  obtain ⟨⟨p0, p1, p2, p3, p4, p5⟩, q0_, q1_, q2_, q3_, q4_⟩ := id m
  refine (s_X10_bridge l D G b0 τ f t (K 0) a0 u1 (iv_any _) u2 (iv_any _) u3 (iv_any _) u4 (iv_any _) (K 11) (K 12) (K 13) a11 b2_ g).post (fun r f1 hp => ?_)
  obtain ⟨-, t1, r1, g1⟩ := hp
  exact ⟨τ, h.xq t1 r1 (Ex.rf τ) g1 (by decide) (by decide)⟩
set_option maxRecDepth 20000 in
theorem lm_15 (l : Launch) (D : va_G) (G : Nat → Nat) (b0 : Nat) {τ : Nat → Nat} {f : hM} {K sh qs M : Nat → Nat} {o : Nat} (h : LI G τ f K sh qs M o) (u1 : Int32) (u2 : Int32) (u3 : Int32) (u4 : Int32) : mI l yX11_bridge cX11_bridge 6 (.int) rm_s_X11_bridge D G b0 f [.ref (M 0), .int u1, .int u2, .int u3, .int u4] (fun _ f1 => ∃ τ1, LI G τ1 f1 K sh qs M o) := by
  obtain ⟨t, X, g, m, ng, ho, ln, ac, hi, B, rb, rk, ri, xd, md, rQ⟩ := id h
  obtain ⟨⟨a0, a1, a2, a3, a4, a5, a6, a7, a8, a9, a10, a11⟩, ⟨b0_, b1_, b2_, b3_, b4_, b5_, b6_, b7_, b8_, b9_, b10_⟩, ⟨rf, c1, c2⟩, dd, ⟨e1, e2⟩, e3⟩ := id X
  obtain ⟨⟨p0, p1, p2, p3, p4, p5⟩, q0_, q1_, q2_, q3_, q4_⟩ := id m
  refine (s_X11_bridge l D G b0 τ f t (M 0) p0 u1 (iv_any _) u2 (iv_any _) u3 (iv_any _) u4 (iv_any _) ng).post (fun r f1 hp => ?_)
  obtain ⟨-, t1, r1, n1⟩ := hp
  exact ⟨τ, h.mq t1 r1 n1 (by decide) (by decide)⟩
set_option maxRecDepth 20000 in
theorem lx_16 (l : Launch) (D : va_G) (G : Nat → Nat) (b0 : Nat) {τ : Nat → Nat} {f : hM} {K sh qs M : Nat → Nat} {o : Nat} (h : LI G τ f K sh qs M o) (u1 : Int32) (u2 : Int32) (u3 : Int32) (u4 : Int32) : mI l yX10_reflected cX10_reflected 10 (.int) rm_s_X10_reflected D G b0 f [.ref (K 0), .int u1, .int u2, .int u3, .int u4] (fun _ f1 => ∃ τ1, LI G τ1 f1 K sh qs M o) := by
  obtain ⟨t, X, g, m, ng, ho, ln, ac, hi, B, rb, rk, ri, xd, md, rQ⟩ := id h
  obtain ⟨⟨a0, a1, a2, a3, a4, a5, a6, a7, a8, a9, a10, a11⟩, ⟨b0_, b1_, b2_, b3_, b4_, b5_, b6_, b7_, b8_, b9_, b10_⟩, ⟨rf, c1, c2⟩, dd, ⟨e1, e2⟩, e3⟩ := id X
  obtain ⟨⟨p0, p1, p2, p3, p4, p5⟩, q0_, q1_, q2_, q3_, q4_⟩ := id m
  refine (s_X10_reflected l D G b0 τ f t (K 0) a0 u1 (iv_any _) u2 (iv_any _) u3 (iv_any _) u4 (iv_any _) (K 11) (K 12) (K 13) a11 b2_ g).post (fun r f1 hp => ?_)
  obtain ⟨-, t1, r1, g1⟩ := hp
  exact ⟨τ, h.xq t1 r1 (Ex.rf τ) g1 (by decide) (by decide)⟩
set_option maxRecDepth 20000 in
theorem lm_16 (l : Launch) (D : va_G) (G : Nat → Nat) (b0 : Nat) {τ : Nat → Nat} {f : hM} {K sh qs M : Nat → Nat} {o : Nat} (h : LI G τ f K sh qs M o) (u1 : Int32) (u2 : Int32) (u3 : Int32) (u4 : Int32) : mI l yX11_reflected cX11_reflected 7 (.int) rm_s_X11_reflected D G b0 f [.ref (M 0), .int u1, .int u2, .int u3, .int u4] (fun _ f1 => ∃ τ1, LI G τ1 f1 K sh qs M o) := by
  obtain ⟨t, X, g, m, ng, ho, ln, ac, hi, B, rb, rk, ri, xd, md, rQ⟩ := id h
  obtain ⟨⟨a0, a1, a2, a3, a4, a5, a6, a7, a8, a9, a10, a11⟩, ⟨b0_, b1_, b2_, b3_, b4_, b5_, b6_, b7_, b8_, b9_, b10_⟩, ⟨rf, c1, c2⟩, dd, ⟨e1, e2⟩, e3⟩ := id X
  obtain ⟨⟨p0, p1, p2, p3, p4, p5⟩, q0_, q1_, q2_, q3_, q4_⟩ := id m
  refine (s_X11_reflected l D G b0 τ f t (M 0) p0 u1 (iv_any _) u2 (iv_any _) u3 (iv_any _) u4 (iv_any _) ng).post (fun r f1 hp => ?_)
  obtain ⟨-, t1, r1, n1⟩ := hp
  exact ⟨τ, h.mq t1 r1 n1 (by decide) (by decide)⟩
set_option maxRecDepth 20000 in
theorem lx_17 (l : Launch) (D : va_G) (G : Nat → Nat) (b0 : Nat) {τ : Nat → Nat} {f : hM} {K sh qs M : Nat → Nat} {o : Nat} (h : LI G τ f K sh qs M o) (u1 : Int32) (u2 : Int32) : mI l yX10_rank cX10_rank 6 (.int) rm_s_X10_rank D G b0 f [.ref (K 0), .int u1, .int u2] (fun _ f1 => ∃ τ1, LI G τ1 f1 K sh qs M o) := by
  obtain ⟨t, X, g, m, ng, ho, ln, ac, hi, B, rb, rk, ri, xd, md, rQ⟩ := id h
  obtain ⟨⟨a0, a1, a2, a3, a4, a5, a6, a7, a8, a9, a10, a11⟩, ⟨b0_, b1_, b2_, b3_, b4_, b5_, b6_, b7_, b8_, b9_, b10_⟩, ⟨rf, c1, c2⟩, dd, ⟨e1, e2⟩, e3⟩ := id X
  obtain ⟨⟨p0, p1, p2, p3, p4, p5⟩, q0_, q1_, q2_, q3_, q4_⟩ := id m
  refine (s_X10_rank l D G b0 τ f t (K 0) a0 u1 (iv_any _) u2 (iv_any _) (K 11) (K 12) (K 13) a11 b2_ g).post (fun r f1 hp => ?_)
  obtain ⟨-, t1, r1, g1⟩ := hp
  exact ⟨τ, h.xq t1 r1 (Ex.rf τ) g1 (by decide) (by decide)⟩
set_option maxRecDepth 20000 in
theorem lm_17 (l : Launch) (D : va_G) (G : Nat → Nat) (b0 : Nat) {τ : Nat → Nat} {f : hM} {K sh qs M : Nat → Nat} {o : Nat} (h : LI G τ f K sh qs M o) (u1 : Int32) (u2 : Int32) : mI l yX11_rank cX11_rank 5 (.int) rm_s_X11_rank D G b0 f [.ref (M 0), .int u1, .int u2] (fun _ f1 => ∃ τ1, LI G τ1 f1 K sh qs M o) := by
  obtain ⟨t, X, g, m, ng, ho, ln, ac, hi, B, rb, rk, ri, xd, md, rQ⟩ := id h
  obtain ⟨⟨a0, a1, a2, a3, a4, a5, a6, a7, a8, a9, a10, a11⟩, ⟨b0_, b1_, b2_, b3_, b4_, b5_, b6_, b7_, b8_, b9_, b10_⟩, ⟨rf, c1, c2⟩, dd, ⟨e1, e2⟩, e3⟩ := id X
  obtain ⟨⟨p0, p1, p2, p3, p4, p5⟩, q0_, q1_, q2_, q3_, q4_⟩ := id m
  refine (s_X11_rank l D G b0 τ f t (M 0) p0 u1 (iv_any _) u2 (iv_any _) ng).post (fun r f1 hp => ?_)
  obtain ⟨-, t1, r1, n1⟩ := hp
  exact ⟨τ, h.mq t1 r1 n1 (by decide) (by decide)⟩
set_option maxRecDepth 20000 in
theorem lx_18 (l : Launch) (D : va_G) (G : Nat → Nat) (b0 : Nat) {τ : Nat → Nat} {f : hM} {K sh qs M : Nat → Nat} {o : Nat} (h : LI G τ f K sh qs M o) (u1 : Int32) (u2 : Int32) (u3 : Int32) : mI l yX10_ratio cX10_ratio 6 (.int) rm_s_X10_ratio D G b0 f [.ref (K 0), .int u1, .int u2, .int u3] (fun _ f1 => ∃ τ1, LI G τ1 f1 K sh qs M o) := by
  obtain ⟨t, X, g, m, ng, ho, ln, ac, hi, B, rb, rk, ri, xd, md, rQ⟩ := id h
  obtain ⟨⟨a0, a1, a2, a3, a4, a5, a6, a7, a8, a9, a10, a11⟩, ⟨b0_, b1_, b2_, b3_, b4_, b5_, b6_, b7_, b8_, b9_, b10_⟩, ⟨rf, c1, c2⟩, dd, ⟨e1, e2⟩, e3⟩ := id X
  obtain ⟨⟨p0, p1, p2, p3, p4, p5⟩, q0_, q1_, q2_, q3_, q4_⟩ := id m
  refine (s_X10_ratio l D G b0 τ f t (K 0) a0 u1 (iv_any _) u2 (iv_any _) u3 (iv_any _) (K 11) (K 12) (K 13) a11 b2_ g).post (fun r f1 hp => ?_)
  obtain ⟨τ1, x1, -, t1, r1, g1⟩ := hp
  exact ⟨τ1, h.xq t1 r1 x1 g1 (by decide) (by decide)⟩
set_option maxRecDepth 20000 in
theorem lm_18 (l : Launch) (D : va_G) (G : Nat → Nat) (b0 : Nat) {τ : Nat → Nat} {f : hM} {K sh qs M : Nat → Nat} {o : Nat} (h : LI G τ f K sh qs M o) (u1 : Int32) (u2 : Int32) (u3 : Int32) : mI l yX11_ratio cX11_ratio 4 (.int) rm_s_X11_ratio D G b0 f [.ref (M 0), .int u1, .int u2, .int u3] (fun _ f1 => ∃ τ1, LI G τ1 f1 K sh qs M o) := by
  obtain ⟨t, X, g, m, ng, ho, ln, ac, hi, B, rb, rk, ri, xd, md, rQ⟩ := id h
  obtain ⟨⟨a0, a1, a2, a3, a4, a5, a6, a7, a8, a9, a10, a11⟩, ⟨b0_, b1_, b2_, b3_, b4_, b5_, b6_, b7_, b8_, b9_, b10_⟩, ⟨rf, c1, c2⟩, dd, ⟨e1, e2⟩, e3⟩ := id X
  obtain ⟨⟨p0, p1, p2, p3, p4, p5⟩, q0_, q1_, q2_, q3_, q4_⟩ := id m
  refine (s_X11_ratio l D G b0 τ f t (M 0) p0 u1 (iv_any _) u2 (iv_any _) u3 (iv_any _) ng).post (fun r f1 hp => ?_)
  obtain ⟨-, t1, r1, n1⟩ := hp
  exact ⟨τ, h.mq t1 r1 n1 (by decide) (by decide)⟩
set_option maxRecDepth 20000 in
theorem lx_19 (l : Launch) (D : va_G) (G : Nat → Nat) (b0 : Nat) {τ : Nat → Nat} {f : hM} {K sh qs M : Nat → Nat} {o : Nat} (h : LI G τ f K sh qs M o) (u1 : Int32) (u2 : Int32) (u3 : Int32) : mI l yX10_hankel cX10_hankel 7 (.int) rm_s_X10_hankel D G b0 f [.ref (K 0), .int u1, .int u2, .int u3] (fun _ f1 => ∃ τ1, LI G τ1 f1 K sh qs M o) := by
  obtain ⟨t, X, g, m, ng, ho, ln, ac, hi, B, rb, rk, ri, xd, md, rQ⟩ := id h
  obtain ⟨⟨a0, a1, a2, a3, a4, a5, a6, a7, a8, a9, a10, a11⟩, ⟨b0_, b1_, b2_, b3_, b4_, b5_, b6_, b7_, b8_, b9_, b10_⟩, ⟨rf, c1, c2⟩, dd, ⟨e1, e2⟩, e3⟩ := id X
  obtain ⟨⟨p0, p1, p2, p3, p4, p5⟩, q0_, q1_, q2_, q3_, q4_⟩ := id m
  refine (s_X10_hankel l D G b0 τ f t (K 0) a0 u1 (iv_any _) u2 (iv_any _) u3 (iv_any _) (K 11) (K 12) (K 13) a11 b2_ g).post (fun r f1 hp => ?_)
  obtain ⟨τ1, x1, -, t1, r1, g1⟩ := hp
  exact ⟨τ1, h.xq t1 r1 x1 g1 (by decide) (by decide)⟩
set_option maxRecDepth 20000 in
theorem lm_19 (l : Launch) (D : va_G) (G : Nat → Nat) (b0 : Nat) {τ : Nat → Nat} {f : hM} {K sh qs M : Nat → Nat} {o : Nat} (h : LI G τ f K sh qs M o) (u1 : Int32) (u2 : Int32) (u3 : Int32) : mI l yX11_hankel cX11_hankel 6 (.int) rm_s_X11_hankel D G b0 f [.ref (M 0), .int u1, .int u2, .int u3] (fun _ f1 => ∃ τ1, LI G τ1 f1 K sh qs M o) := by
  obtain ⟨t, X, g, m, ng, ho, ln, ac, hi, B, rb, rk, ri, xd, md, rQ⟩ := id h
  obtain ⟨⟨a0, a1, a2, a3, a4, a5, a6, a7, a8, a9, a10, a11⟩, ⟨b0_, b1_, b2_, b3_, b4_, b5_, b6_, b7_, b8_, b9_, b10_⟩, ⟨rf, c1, c2⟩, dd, ⟨e1, e2⟩, e3⟩ := id X
  obtain ⟨⟨p0, p1, p2, p3, p4, p5⟩, q0_, q1_, q2_, q3_, q4_⟩ := id m
  refine (s_X11_hankel l D G b0 τ f t (M 0) p0 u1 (iv_any _) u2 (iv_any _) u3 (iv_any _) ng).post (fun r f1 hp => ?_)
  obtain ⟨-, t1, r1, n1⟩ := hp
  exact ⟨τ, h.mq t1 r1 n1 (by decide) (by decide)⟩
set_option maxRecDepth 20000 in
theorem lx_20 (l : Launch) (D : va_G) (G : Nat → Nat) (b0 : Nat) {τ : Nat → Nat} {f : hM} {K sh qs M : Nat → Nat} {o : Nat} (h : LI G τ f K sh qs M o) (u1 : Int32) (u2 : Int32) (u3 : Int32) (u4 : Int32) (u5 : Int32) : mI l yX10_convolved cX10_convolved 11 (.int) rm_s_X10_convolved D G b0 f [.ref (K 0), .int u1, .int u2, .int u3, .int u4, .int u5] (fun _ f1 => ∃ τ1, LI G τ1 f1 K sh qs M o) := by
  obtain ⟨t, X, g, m, ng, ho, ln, ac, hi, B, rb, rk, ri, xd, md, rQ⟩ := id h
  obtain ⟨⟨a0, a1, a2, a3, a4, a5, a6, a7, a8, a9, a10, a11⟩, ⟨b0_, b1_, b2_, b3_, b4_, b5_, b6_, b7_, b8_, b9_, b10_⟩, ⟨rf, c1, c2⟩, dd, ⟨e1, e2⟩, e3⟩ := id X
  obtain ⟨⟨p0, p1, p2, p3, p4, p5⟩, q0_, q1_, q2_, q3_, q4_⟩ := id m
  refine (s_X10_convolved l D G b0 τ f t (K 0) a0 u1 (iv_any _) u2 (iv_any _) u3 (iv_any _) u4 (iv_any _) u5 (iv_any _) (K 11) (K 12) (K 13) a11 b2_ g).post (fun r f1 hp => ?_)
  obtain ⟨τ1, x1, -, t1, r1, g1⟩ := hp
  exact ⟨τ1, h.xq t1 r1 x1 g1 (by decide) (by decide)⟩
set_option maxRecDepth 20000 in
theorem lm_20 (l : Launch) (D : va_G) (G : Nat → Nat) (b0 : Nat) {τ : Nat → Nat} {f : hM} {K sh qs M : Nat → Nat} {o : Nat} (h : LI G τ f K sh qs M o) (u1 : Int32) (u2 : Int32) (u3 : Int32) (u4 : Int32) (u5 : Int32) : mI l yX11_convolved cX11_convolved 9 (.int) rm_s_X11_convolved D G b0 f [.ref (M 0), .int u1, .int u2, .int u3, .int u4, .int u5] (fun _ f1 => ∃ τ1, LI G τ1 f1 K sh qs M o) := by
  obtain ⟨t, X, g, m, ng, ho, ln, ac, hi, B, rb, rk, ri, xd, md, rQ⟩ := id h
  obtain ⟨⟨a0, a1, a2, a3, a4, a5, a6, a7, a8, a9, a10, a11⟩, ⟨b0_, b1_, b2_, b3_, b4_, b5_, b6_, b7_, b8_, b9_, b10_⟩, ⟨rf, c1, c2⟩, dd, ⟨e1, e2⟩, e3⟩ := id X
  obtain ⟨⟨p0, p1, p2, p3, p4, p5⟩, q0_, q1_, q2_, q3_, q4_⟩ := id m
  refine (s_X11_convolved l D G b0 τ f t (M 0) p0 u1 (iv_any _) u2 (iv_any _) u3 (iv_any _) u4 (iv_any _) u5 (iv_any _) ng).post (fun r f1 hp => ?_)
  obtain ⟨-, t1, r1, n1⟩ := hp
  exact ⟨τ, h.mq t1 r1 n1 (by decide) (by decide)⟩
set_option maxRecDepth 20000 in
theorem lx_21 (l : Launch) (D : va_G) (G : Nat → Nat) (b0 : Nat) {τ : Nat → Nat} {f : hM} {K sh qs M : Nat → Nat} {o : Nat} (h : LI G τ f K sh qs M o) (u1 : Int32) (u2 : Int32) : mI l yX10_out cX10_out 4 (.int) rm_s_X10_out D G b0 f [.ref (K 0), .int u1, .int u2] (fun _ f1 => ∃ τ1, LI G τ1 f1 K sh qs M o) := by
  obtain ⟨t, X, g, m, ng, ho, ln, ac, hi, B, rb, rk, ri, xd, md, rQ⟩ := id h
  obtain ⟨⟨a0, a1, a2, a3, a4, a5, a6, a7, a8, a9, a10, a11⟩, ⟨b0_, b1_, b2_, b3_, b4_, b5_, b6_, b7_, b8_, b9_, b10_⟩, ⟨rf, c1, c2⟩, dd, ⟨e1, e2⟩, e3⟩ := id X
  obtain ⟨⟨p0, p1, p2, p3, p4, p5⟩, q0_, q1_, q2_, q3_, q4_⟩ := id m
  refine (s_X10_out l D G b0 τ f t (K 0) a0 u1 (iv_any _) u2 (iv_any _) (K 11) (K 12) (K 13) a11 b2_ g).post (fun r f1 hp => ?_)
  obtain ⟨-, t1, r1, g1⟩ := hp
  exact ⟨τ, h.xq t1 r1 (Ex.rf τ) g1 (by decide) (by decide)⟩
set_option maxRecDepth 20000 in
theorem lm_21 (l : Launch) (D : va_G) (G : Nat → Nat) (b0 : Nat) {τ : Nat → Nat} {f : hM} {K sh qs M : Nat → Nat} {o : Nat} (h : LI G τ f K sh qs M o) (u1 : Int32) (u2 : Int32) : mI l yX11_out cX11_out 9 (.int) rm_s_X11_out D G b0 f [.ref (M 0), .int u1, .int u2] (fun _ f1 => ∃ τ1, LI G τ1 f1 K sh qs M o) := by
  obtain ⟨t, X, g, m, ng, ho, ln, ac, hi, B, rb, rk, ri, xd, md, rQ⟩ := id h
  obtain ⟨⟨a0, a1, a2, a3, a4, a5, a6, a7, a8, a9, a10, a11⟩, ⟨b0_, b1_, b2_, b3_, b4_, b5_, b6_, b7_, b8_, b9_, b10_⟩, ⟨rf, c1, c2⟩, dd, ⟨e1, e2⟩, e3⟩ := id X
  obtain ⟨⟨p0, p1, p2, p3, p4, p5⟩, q0_, q1_, q2_, q3_, q4_⟩ := id m
  refine (s_X11_out l D G b0 τ f t (M 0) p0 u1 (iv_any _) u2 (iv_any _) ng).post (fun r f1 hp => ?_)
  obtain ⟨-, t1, r1, n1⟩ := hp
  exact ⟨τ, h.mq t1 r1 n1 (by decide) (by decide)⟩
set_option maxRecDepth 20000 in
theorem lx_22 (l : Launch) (D : va_G) (G : Nat → Nat) (b0 : Nat) {τ : Nat → Nat} {f : hM} {K sh qs M : Nat → Nat} {o : Nat} (h : LI G τ f K sh qs M o) (u1 : Int32) (u2 : Int32) : mI l yX10_arches cX10_arches 8 (.int) rm_s_X10_arches D G b0 f [.ref (K 0), .int u1, .int u2] (fun _ f1 => ∃ τ1, LI G τ1 f1 K sh qs M o) := by
  obtain ⟨t, X, g, m, ng, ho, ln, ac, hi, B, rb, rk, ri, xd, md, rQ⟩ := id h
  obtain ⟨⟨a0, a1, a2, a3, a4, a5, a6, a7, a8, a9, a10, a11⟩, ⟨b0_, b1_, b2_, b3_, b4_, b5_, b6_, b7_, b8_, b9_, b10_⟩, ⟨rf, c1, c2⟩, dd, ⟨e1, e2⟩, e3⟩ := id X
  obtain ⟨⟨p0, p1, p2, p3, p4, p5⟩, q0_, q1_, q2_, q3_, q4_⟩ := id m
  refine (s_X10_arches l D G b0 τ f t (K 0) a0 u1 (iv_any _) u2 (iv_any _) (K 11) (K 12) (K 13) a11 b2_ g).post (fun r f1 hp => ?_)
  obtain ⟨τ1, x1, -, t1, r1, g1⟩ := hp
  exact ⟨τ1, h.xq t1 r1 x1 g1 (by decide) (by decide)⟩
set_option maxRecDepth 20000 in
theorem lm_22 (l : Launch) (D : va_G) (G : Nat → Nat) (b0 : Nat) {τ : Nat → Nat} {f : hM} {K sh qs M : Nat → Nat} {o : Nat} (h : LI G τ f K sh qs M o) (u1 : Int32) (u2 : Int32) : mI l yX11_arches cX11_arches 7 (.int) rm_s_X11_arches D G b0 f [.ref (M 0), .int u1, .int u2] (fun _ f1 => ∃ τ1, LI G τ1 f1 K sh qs M o) := by
  obtain ⟨t, X, g, m, ng, ho, ln, ac, hi, B, rb, rk, ri, xd, md, rQ⟩ := id h
  obtain ⟨⟨a0, a1, a2, a3, a4, a5, a6, a7, a8, a9, a10, a11⟩, ⟨b0_, b1_, b2_, b3_, b4_, b5_, b6_, b7_, b8_, b9_, b10_⟩, ⟨rf, c1, c2⟩, dd, ⟨e1, e2⟩, e3⟩ := id X
  obtain ⟨⟨p0, p1, p2, p3, p4, p5⟩, q0_, q1_, q2_, q3_, q4_⟩ := id m
  refine (s_X11_arches l D G b0 τ f t (M 0) p0 u1 (iv_any _) u2 (iv_any _) ng).post (fun r f1 hp => ?_)
  obtain ⟨-, t1, r1, n1⟩ := hp
  exact ⟨τ, h.mq t1 r1 n1 (by decide) (by decide)⟩
set_option maxRecDepth 20000 in
theorem lx_23 (l : Launch) (D : va_G) (G : Nat → Nat) (b0 : Nat) {τ : Nat → Nat} {f : hM} {K sh qs M : Nat → Nat} {o : Nat} (h : LI G τ f K sh qs M o) (u1 : Int32) (u2 : Int32) (u3 : Int32) (u4 : Int32) : mI l yX10_value cX10_value 6 (.int) rm_s_X10_value D G b0 f [.ref (K 0), .int u1, .int u2, .int u3, .int u4] (fun _ f1 => ∃ τ1, LI G τ1 f1 K sh qs M o) := by
  obtain ⟨t, X, g, m, ng, ho, ln, ac, hi, B, rb, rk, ri, xd, md, rQ⟩ := id h
  obtain ⟨⟨a0, a1, a2, a3, a4, a5, a6, a7, a8, a9, a10, a11⟩, ⟨b0_, b1_, b2_, b3_, b4_, b5_, b6_, b7_, b8_, b9_, b10_⟩, ⟨rf, c1, c2⟩, dd, ⟨e1, e2⟩, e3⟩ := id X
  obtain ⟨⟨p0, p1, p2, p3, p4, p5⟩, q0_, q1_, q2_, q3_, q4_⟩ := id m
  refine (s_X10_value l D G b0 τ f t (K 0) a0 u1 (iv_any _) u2 (iv_any _) u3 (iv_any _) u4 (iv_any _) (K 11) (K 12) (K 13) a11 b2_ g).post (fun r f1 hp => ?_)
  obtain ⟨-, t1, r1, g1⟩ := hp
  exact ⟨τ, h.xq t1 r1 (Ex.rf τ) g1 (by decide) (by decide)⟩
set_option maxRecDepth 20000 in
theorem lm_23 (l : Launch) (D : va_G) (G : Nat → Nat) (b0 : Nat) {τ : Nat → Nat} {f : hM} {K sh qs M : Nat → Nat} {o : Nat} (h : LI G τ f K sh qs M o) (u1 : Int32) (u2 : Int32) (u3 : Int32) (u4 : Int32) : mI l yX11_value cX11_value 13 (.int) rm_s_X11_value D G b0 f [.ref (M 0), .int u1, .int u2, .int u3, .int u4] (fun _ f1 => ∃ τ1, LI G τ1 f1 K sh qs M o) := by
  obtain ⟨t, X, g, m, ng, ho, ln, ac, hi, B, rb, rk, ri, xd, md, rQ⟩ := id h
  obtain ⟨⟨a0, a1, a2, a3, a4, a5, a6, a7, a8, a9, a10, a11⟩, ⟨b0_, b1_, b2_, b3_, b4_, b5_, b6_, b7_, b8_, b9_, b10_⟩, ⟨rf, c1, c2⟩, dd, ⟨e1, e2⟩, e3⟩ := id X
  obtain ⟨⟨p0, p1, p2, p3, p4, p5⟩, q0_, q1_, q2_, q3_, q4_⟩ := id m
  refine (s_X11_value l D G b0 τ f t (M 0) p0 u1 (iv_any _) u2 (iv_any _) u3 (iv_any _) u4 (iv_any _) ng).post (fun r f1 hp => ?_)
  obtain ⟨-, t1, r1, n1⟩ := hp
  exact ⟨τ, h.mq t1 r1 n1 (by decide) (by decide)⟩
set_option maxRecDepth 20000 in
theorem lx_24 (l : Launch) (D : va_G) (G : Nat → Nat) (b0 : Nat) {τ : Nat → Nat} {f : hM} {K sh qs M : Nat → Nat} {o : Nat} (h : LI G τ f K sh qs M o) (u1 : Int32) (u2 : Int32) (u3 : Int32) (u4 : Int32) (u5 : Int32) (u6 : Int32) : mI l yX10_walk cX10_walk 9 (.int) rm_s_X10_walk D G b0 f [.ref (K 0), .int u1, .int u2, .int u3, .int u4, .int u5, .int u6] (fun _ f1 => ∃ τ1, LI G τ1 f1 K sh qs M o) := by
  obtain ⟨t, X, g, m, ng, ho, ln, ac, hi, B, rb, rk, ri, xd, md, rQ⟩ := id h
  obtain ⟨⟨a0, a1, a2, a3, a4, a5, a6, a7, a8, a9, a10, a11⟩, ⟨b0_, b1_, b2_, b3_, b4_, b5_, b6_, b7_, b8_, b9_, b10_⟩, ⟨rf, c1, c2⟩, dd, ⟨e1, e2⟩, e3⟩ := id X
  obtain ⟨⟨p0, p1, p2, p3, p4, p5⟩, q0_, q1_, q2_, q3_, q4_⟩ := id m
  refine (s_X10_walk l D G b0 τ f t (K 0) a0 u1 (iv_any _) u2 (iv_any _) u3 (iv_any _) u4 (iv_any _) u5 (iv_any _) u6 (iv_any _)).post (fun r f1 hp => ?_)
  obtain ⟨-, t1, r1⟩ := hp
  exact ⟨τ, h.xg t1 r1 (Ex.rf τ) (by decide) (by decide) (by decide)⟩
set_option maxRecDepth 20000 in
theorem lm_24 (l : Launch) (D : va_G) (G : Nat → Nat) (b0 : Nat) {τ : Nat → Nat} {f : hM} {K sh qs M : Nat → Nat} {o : Nat} (h : LI G τ f K sh qs M o) (u1 : Int32) (u2 : Int32) (u3 : Int32) (u4 : Int32) (u5 : Int32) (u6 : Int32) : mI l yX11_walk cX11_walk 9 (.int) rm_s_X11_walk D G b0 f [.ref (M 0), .int u1, .int u2, .int u3, .int u4, .int u5, .int u6] (fun _ f1 => ∃ τ1, LI G τ1 f1 K sh qs M o) := by
  obtain ⟨t, X, g, m, ng, ho, ln, ac, hi, B, rb, rk, ri, xd, md, rQ⟩ := id h
  obtain ⟨⟨a0, a1, a2, a3, a4, a5, a6, a7, a8, a9, a10, a11⟩, ⟨b0_, b1_, b2_, b3_, b4_, b5_, b6_, b7_, b8_, b9_, b10_⟩, ⟨rf, c1, c2⟩, dd, ⟨e1, e2⟩, e3⟩ := id X
  obtain ⟨⟨p0, p1, p2, p3, p4, p5⟩, q0_, q1_, q2_, q3_, q4_⟩ := id m
  refine (s_X11_walk l D G b0 τ f t (M 0) p0 u1 (iv_any _) u2 (iv_any _) u3 (iv_any _) u4 (iv_any _) u5 (iv_any _) u6 (iv_any _) ng).post (fun r f1 hp => ?_)
  obtain ⟨-, t1, r1, n1⟩ := hp
  exact ⟨τ, h.mq t1 r1 n1 (by decide) (by decide)⟩
set_option maxRecDepth 20000 in
theorem lx_25 (l : Launch) (D : va_G) (G : Nat → Nat) (b0 : Nat) {τ : Nat → Nat} {f : hM} {K sh qs M : Nat → Nat} {o : Nat} (h : LI G τ f K sh qs M o) (u1 : Int32) (u2 : Int32) (u3 : Int32) (u4 : Int32) (u5 : Int64) (u6 : Int32) : mI l yX10_drawn cX10_drawn 12 (.int) rm_s_X10_drawn D G b0 f [.ref (K 0), .int u1, .int u2, .int u3, .int u4, .long u5, .int u6] (fun _ f1 => ∃ τ1, LI G τ1 f1 K sh qs M o) := by
  obtain ⟨t, X, g, m, ng, ho, ln, ac, hi, B, rb, rk, ri, xd, md, rQ⟩ := id h
  obtain ⟨⟨a0, a1, a2, a3, a4, a5, a6, a7, a8, a9, a10, a11⟩, ⟨b0_, b1_, b2_, b3_, b4_, b5_, b6_, b7_, b8_, b9_, b10_⟩, ⟨rf, c1, c2⟩, dd, ⟨e1, e2⟩, e3⟩ := id X
  obtain ⟨⟨p0, p1, p2, p3, p4, p5⟩, q0_, q1_, q2_, q3_, q4_⟩ := id m
  refine (s_X10_drawn l D G b0 τ f t (K 0) a0 u1 (iv_any _) u2 (iv_any _) u3 (iv_any _) u4 (iv_any _) u5 u6 (iv_any _)).post (fun r f1 hp => ?_)
  obtain ⟨-, t1, r1⟩ := hp
  exact ⟨τ, h.xg t1 r1 (Ex.rf τ) (by decide) (by decide) (by decide)⟩
set_option maxRecDepth 20000 in
theorem lm_25 (l : Launch) (D : va_G) (G : Nat → Nat) (b0 : Nat) {τ : Nat → Nat} {f : hM} {K sh qs M : Nat → Nat} {o : Nat} (h : LI G τ f K sh qs M o) (u1 : Int32) (u2 : Int32) (u3 : Int32) (u4 : Int32) (u5 : Int64) (u6 : Int32) : mI l yX11_drawn cX11_drawn 12 (.int) rm_s_X11_drawn D G b0 f [.ref (M 0), .int u1, .int u2, .int u3, .int u4, .long u5, .int u6] (fun _ f1 => ∃ τ1, LI G τ1 f1 K sh qs M o) := by
  obtain ⟨t, X, g, m, ng, ho, ln, ac, hi, B, rb, rk, ri, xd, md, rQ⟩ := id h
  obtain ⟨⟨a0, a1, a2, a3, a4, a5, a6, a7, a8, a9, a10, a11⟩, ⟨b0_, b1_, b2_, b3_, b4_, b5_, b6_, b7_, b8_, b9_, b10_⟩, ⟨rf, c1, c2⟩, dd, ⟨e1, e2⟩, e3⟩ := id X
  obtain ⟨⟨p0, p1, p2, p3, p4, p5⟩, q0_, q1_, q2_, q3_, q4_⟩ := id m
  refine (s_X11_drawn l D G b0 τ f t (M 0) p0 u1 (iv_any _) u2 (iv_any _) u3 (iv_any _) u4 (iv_any _) u5 u6 (iv_any _) ng).post (fun r f1 hp => ?_)
  obtain ⟨-, t1, r1, n1⟩ := hp
  exact ⟨τ, h.mq t1 r1 n1 (by decide) (by decide)⟩
set_option maxRecDepth 20000 in
theorem lx_26 (l : Launch) (D : va_G) (G : Nat → Nat) (b0 : Nat) {τ : Nat → Nat} {f : hM} {K sh qs M : Nat → Nat} {o : Nat} (h : LI G τ f K sh qs M o) (u1 : Int32) (u2 : Int32) (u3 : Int32) : mI l yX10_peak cX10_peak 5 (.int) rm_s_X10_peak D G b0 f [.ref (K 0), .int u1, .int u2, .int u3] (fun _ f1 => ∃ τ1, LI G τ1 f1 K sh qs M o) := by
  obtain ⟨t, X, g, m, ng, ho, ln, ac, hi, B, rb, rk, ri, xd, md, rQ⟩ := id h
  obtain ⟨⟨a0, a1, a2, a3, a4, a5, a6, a7, a8, a9, a10, a11⟩, ⟨b0_, b1_, b2_, b3_, b4_, b5_, b6_, b7_, b8_, b9_, b10_⟩, ⟨rf, c1, c2⟩, dd, ⟨e1, e2⟩, e3⟩ := id X
  obtain ⟨⟨p0, p1, p2, p3, p4, p5⟩, q0_, q1_, q2_, q3_, q4_⟩ := id m
  refine (s_X10_peak l D G b0 τ f t (K 0) a0 u1 (iv_any _) u2 (iv_any _) u3 (iv_any _) (K 11) (K 12) (K 13) a11 b2_ g).post (fun r f1 hp => ?_)
  obtain ⟨-, t1, r1, g1⟩ := hp
  exact ⟨τ, h.xq t1 r1 (Ex.rf τ) g1 (by decide) (by decide)⟩
set_option maxRecDepth 20000 in
theorem lm_26 (l : Launch) (D : va_G) (G : Nat → Nat) (b0 : Nat) {τ : Nat → Nat} {f : hM} {K sh qs M : Nat → Nat} {o : Nat} (h : LI G τ f K sh qs M o) (u1 : Int32) (u2 : Int32) (u3 : Int32) : mI l yX11_peak cX11_peak 10 (.int) rm_s_X11_peak D G b0 f [.ref (M 0), .int u1, .int u2, .int u3] (fun _ f1 => ∃ τ1, LI G τ1 f1 K sh qs M o) := by
  obtain ⟨t, X, g, m, ng, ho, ln, ac, hi, B, rb, rk, ri, xd, md, rQ⟩ := id h
  obtain ⟨⟨a0, a1, a2, a3, a4, a5, a6, a7, a8, a9, a10, a11⟩, ⟨b0_, b1_, b2_, b3_, b4_, b5_, b6_, b7_, b8_, b9_, b10_⟩, ⟨rf, c1, c2⟩, dd, ⟨e1, e2⟩, e3⟩ := id X
  obtain ⟨⟨p0, p1, p2, p3, p4, p5⟩, q0_, q1_, q2_, q3_, q4_⟩ := id m
  refine (s_X11_peak l D G b0 τ f t (M 0) p0 u1 (iv_any _) u2 (iv_any _) u3 (iv_any _) ng).post (fun r f1 hp => ?_)
  obtain ⟨-, t1, r1, n1⟩ := hp
  exact ⟨τ, h.mq t1 r1 n1 (by decide) (by decide)⟩
set_option maxRecDepth 20000 in
theorem lx_27 (l : Launch) (D : va_G) (G : Nat → Nat) (b0 : Nat) {τ : Nat → Nat} {f : hM} {K sh qs M : Nat → Nat} {o : Nat} (h : LI G τ f K sh qs M o) (u1 : Int32) (u2 : Int32) : mI l yX10_points cX10_points 4 (.int) rm_s_X10_points D G b0 f [.ref (K 0), .int u1, .int u2] (fun _ f1 => ∃ τ1, LI G τ1 f1 K sh qs M o) := by
  obtain ⟨t, X, g, m, ng, ho, ln, ac, hi, B, rb, rk, ri, xd, md, rQ⟩ := id h
  obtain ⟨⟨a0, a1, a2, a3, a4, a5, a6, a7, a8, a9, a10, a11⟩, ⟨b0_, b1_, b2_, b3_, b4_, b5_, b6_, b7_, b8_, b9_, b10_⟩, ⟨rf, c1, c2⟩, dd, ⟨e1, e2⟩, e3⟩ := id X
  obtain ⟨⟨p0, p1, p2, p3, p4, p5⟩, q0_, q1_, q2_, q3_, q4_⟩ := id m
  refine (s_X10_points l D G b0 τ f t (K 0) a0 u1 (iv_any _) u2 (iv_any _) (K 11) (K 12) (K 13) a11 b2_ g).post (fun r f1 hp => ?_)
  obtain ⟨-, t1, r1, g1⟩ := hp
  exact ⟨τ, h.xq t1 r1 (Ex.rf τ) g1 (by decide) (by decide)⟩
set_option maxRecDepth 20000 in
theorem lm_27 (l : Launch) (D : va_G) (G : Nat → Nat) (b0 : Nat) {τ : Nat → Nat} {f : hM} {K sh qs M : Nat → Nat} {o : Nat} (h : LI G τ f K sh qs M o) (u1 : Int32) (u2 : Int32) : mI l yX11_points cX11_points 5 (.int) rm_s_X11_points D G b0 f [.ref (M 0), .int u1, .int u2] (fun _ f1 => ∃ τ1, LI G τ1 f1 K sh qs M o) := by
  obtain ⟨t, X, g, m, ng, ho, ln, ac, hi, B, rb, rk, ri, xd, md, rQ⟩ := id h
  obtain ⟨⟨a0, a1, a2, a3, a4, a5, a6, a7, a8, a9, a10, a11⟩, ⟨b0_, b1_, b2_, b3_, b4_, b5_, b6_, b7_, b8_, b9_, b10_⟩, ⟨rf, c1, c2⟩, dd, ⟨e1, e2⟩, e3⟩ := id X
  obtain ⟨⟨p0, p1, p2, p3, p4, p5⟩, q0_, q1_, q2_, q3_, q4_⟩ := id m
  refine (s_X11_points l D G b0 τ f t (M 0) p0 u1 (iv_any _) u2 (iv_any _) ng).post (fun r f1 hp => ?_)
  obtain ⟨-, t1, r1, n1⟩ := hp
  exact ⟨τ, h.mq t1 r1 n1 (by decide) (by decide)⟩
set_option maxRecDepth 20000 in
theorem lx_28 (l : Launch) (D : va_G) (G : Nat → Nat) (b0 : Nat) {τ : Nat → Nat} {f : hM} {K sh qs M : Nat → Nat} {o : Nat} (h : LI G τ f K sh qs M o) (u1 : Int32) (u2 : Int32) (u3 : Int32) : mI l yX10_fewest cX10_fewest 6 (.int) rm_s_X10_fewest D G b0 f [.ref (K 0), .int u1, .int u2, .int u3] (fun _ f1 => ∃ τ1, LI G τ1 f1 K sh qs M o) := by
  obtain ⟨t, X, g, m, ng, ho, ln, ac, hi, B, rb, rk, ri, xd, md, rQ⟩ := id h
  obtain ⟨⟨a0, a1, a2, a3, a4, a5, a6, a7, a8, a9, a10, a11⟩, ⟨b0_, b1_, b2_, b3_, b4_, b5_, b6_, b7_, b8_, b9_, b10_⟩, ⟨rf, c1, c2⟩, dd, ⟨e1, e2⟩, e3⟩ := id X
  obtain ⟨⟨p0, p1, p2, p3, p4, p5⟩, q0_, q1_, q2_, q3_, q4_⟩ := id m
  refine (s_X10_fewest l D G b0 τ f t (K 0) a0 u1 (iv_any _) u2 (iv_any _) u3 (iv_any _) (K 11) (K 12) (K 13) a11 b2_ g).post (fun r f1 hp => ?_)
  obtain ⟨-, t1, r1, g1⟩ := hp
  exact ⟨τ, h.xq t1 r1 (Ex.rf τ) g1 (by decide) (by decide)⟩
set_option maxRecDepth 20000 in
theorem lm_28 (l : Launch) (D : va_G) (G : Nat → Nat) (b0 : Nat) {τ : Nat → Nat} {f : hM} {K sh qs M : Nat → Nat} {o : Nat} (h : LI G τ f K sh qs M o) (u1 : Int32) (u2 : Int32) (u3 : Int32) : mI l yX11_fewest cX11_fewest 4 (.int) rm_s_X11_fewest D G b0 f [.ref (M 0), .int u1, .int u2, .int u3] (fun _ f1 => ∃ τ1, LI G τ1 f1 K sh qs M o) := by
  obtain ⟨t, X, g, m, ng, ho, ln, ac, hi, B, rb, rk, ri, xd, md, rQ⟩ := id h
  obtain ⟨⟨a0, a1, a2, a3, a4, a5, a6, a7, a8, a9, a10, a11⟩, ⟨b0_, b1_, b2_, b3_, b4_, b5_, b6_, b7_, b8_, b9_, b10_⟩, ⟨rf, c1, c2⟩, dd, ⟨e1, e2⟩, e3⟩ := id X
  obtain ⟨⟨p0, p1, p2, p3, p4, p5⟩, q0_, q1_, q2_, q3_, q4_⟩ := id m
  refine (s_X11_fewest l D G b0 τ f t (M 0) p0 u1 (iv_any _) u2 (iv_any _) u3 (iv_any _) ng).post (fun r f1 hp => ?_)
  obtain ⟨-, t1, r1, n1⟩ := hp
  exact ⟨τ, h.mq t1 r1 n1 (by decide) (by decide)⟩
set_option maxRecDepth 20000 in
theorem lx_29 (l : Launch) (D : va_G) (G : Nat → Nat) (b0 : Nat) {τ : Nat → Nat} {f : hM} {K sh qs M : Nat → Nat} {o : Nat} (h : LI G τ f K sh qs M o) (u1 : Int32) : mI l yX10_period cX10_period 5 (.int) rm_s_X10_period D G b0 f [.ref (K 0), .int u1] (fun _ f1 => ∃ τ1, LI G τ1 f1 K sh qs M o) := by
  obtain ⟨t, X, g, m, ng, ho, ln, ac, hi, B, rb, rk, ri, xd, md, rQ⟩ := id h
  obtain ⟨⟨a0, a1, a2, a3, a4, a5, a6, a7, a8, a9, a10, a11⟩, ⟨b0_, b1_, b2_, b3_, b4_, b5_, b6_, b7_, b8_, b9_, b10_⟩, ⟨rf, c1, c2⟩, dd, ⟨e1, e2⟩, e3⟩ := id X
  obtain ⟨⟨p0, p1, p2, p3, p4, p5⟩, q0_, q1_, q2_, q3_, q4_⟩ := id m
  refine (s_X10_period l D G b0 τ f t (K 0) a0 u1 (iv_any _) (K 11) (K 12) (K 13) a11 b2_ g).post (fun r f1 hp => ?_)
  obtain ⟨-, t1, r1, g1⟩ := hp
  exact ⟨τ, h.xq t1 r1 (Ex.rf τ) g1 (by decide) (by decide)⟩
set_option maxRecDepth 20000 in
theorem lm_29 (l : Launch) (D : va_G) (G : Nat → Nat) (b0 : Nat) {τ : Nat → Nat} {f : hM} {K sh qs M : Nat → Nat} {o : Nat} (h : LI G τ f K sh qs M o) (u1 : Int32) : mI l yX11_period cX11_period 4 (.int) rm_s_X11_period D G b0 f [.ref (M 0), .int u1] (fun _ f1 => ∃ τ1, LI G τ1 f1 K sh qs M o) := by
  obtain ⟨t, X, g, m, ng, ho, ln, ac, hi, B, rb, rk, ri, xd, md, rQ⟩ := id h
  obtain ⟨⟨a0, a1, a2, a3, a4, a5, a6, a7, a8, a9, a10, a11⟩, ⟨b0_, b1_, b2_, b3_, b4_, b5_, b6_, b7_, b8_, b9_, b10_⟩, ⟨rf, c1, c2⟩, dd, ⟨e1, e2⟩, e3⟩ := id X
  obtain ⟨⟨p0, p1, p2, p3, p4, p5⟩, q0_, q1_, q2_, q3_, q4_⟩ := id m
  refine (s_X11_period l D G b0 τ f t (M 0) p0 u1 (iv_any _) ng).post (fun r f1 hp => ?_)
  obtain ⟨-, t1, r1, n1⟩ := hp
  exact ⟨τ, h.mq t1 r1 n1 (by decide) (by decide)⟩
set_option maxRecDepth 20000 in
theorem lx_30 (l : Launch) (D : va_G) (G : Nat → Nat) (b0 : Nat) {τ : Nat → Nat} {f : hM} {K sh qs M : Nat → Nat} {o : Nat} (h : LI G τ f K sh qs M o) (u1 : Int32) (u2 : Int32) (u3 : Int32) : mI l yX10_meet cX10_meet 6 (.int) rm_s_X10_meet D G b0 f [.ref (K 0), .int u1, .int u2, .int u3] (fun _ f1 => ∃ τ1, LI G τ1 f1 K sh qs M o) := by
  obtain ⟨t, X, g, m, ng, ho, ln, ac, hi, B, rb, rk, ri, xd, md, rQ⟩ := id h
  obtain ⟨⟨a0, a1, a2, a3, a4, a5, a6, a7, a8, a9, a10, a11⟩, ⟨b0_, b1_, b2_, b3_, b4_, b5_, b6_, b7_, b8_, b9_, b10_⟩, ⟨rf, c1, c2⟩, dd, ⟨e1, e2⟩, e3⟩ := id X
  obtain ⟨⟨p0, p1, p2, p3, p4, p5⟩, q0_, q1_, q2_, q3_, q4_⟩ := id m
  refine (s_X10_meet l D G b0 τ f t (K 0) a0 u1 (iv_any _) u2 (iv_any _) u3 (iv_any _) (K 11) (K 12) (K 13) a11 b2_ g).post (fun r f1 hp => ?_)
  obtain ⟨-, t1, r1, g1⟩ := hp
  exact ⟨τ, h.xq t1 r1 (Ex.rf τ) g1 (by decide) (by decide)⟩
set_option maxRecDepth 20000 in
theorem lm_30 (l : Launch) (D : va_G) (G : Nat → Nat) (b0 : Nat) {τ : Nat → Nat} {f : hM} {K sh qs M : Nat → Nat} {o : Nat} (h : LI G τ f K sh qs M o) (u1 : Int32) (u2 : Int32) (u3 : Int32) : mI l yX11_meet cX11_meet 7 (.int) rm_s_X11_meet D G b0 f [.ref (M 0), .int u1, .int u2, .int u3] (fun _ f1 => ∃ τ1, LI G τ1 f1 K sh qs M o) := by
  obtain ⟨t, X, g, m, ng, ho, ln, ac, hi, B, rb, rk, ri, xd, md, rQ⟩ := id h
  obtain ⟨⟨a0, a1, a2, a3, a4, a5, a6, a7, a8, a9, a10, a11⟩, ⟨b0_, b1_, b2_, b3_, b4_, b5_, b6_, b7_, b8_, b9_, b10_⟩, ⟨rf, c1, c2⟩, dd, ⟨e1, e2⟩, e3⟩ := id X
  obtain ⟨⟨p0, p1, p2, p3, p4, p5⟩, q0_, q1_, q2_, q3_, q4_⟩ := id m
  refine (s_X11_meet l D G b0 τ f t (M 0) p0 u1 (iv_any _) u2 (iv_any _) u3 (iv_any _) ng).post (fun r f1 hp => ?_)
  obtain ⟨-, t1, r1, n1⟩ := hp
  exact ⟨τ, h.mq t1 r1 n1 (by decide) (by decide)⟩
set_option maxRecDepth 20000 in
theorem lx_31 (l : Launch) (D : va_G) (G : Nat → Nat) (b0 : Nat) {τ : Nat → Nat} {f : hM} {K sh qs M : Nat → Nat} {o : Nat} (h : LI G τ f K sh qs M o) (u1 : Int32) (u2 : Int32) (u3 : Int32) : mI l yX10_kernel cX10_kernel 5 (.int) rm_s_X10_kernel D G b0 f [.ref (K 0), .int u1, .int u2, .int u3] (fun _ f1 => ∃ τ1, LI G τ1 f1 K sh qs M o) := by
  obtain ⟨t, X, g, m, ng, ho, ln, ac, hi, B, rb, rk, ri, xd, md, rQ⟩ := id h
  obtain ⟨⟨a0, a1, a2, a3, a4, a5, a6, a7, a8, a9, a10, a11⟩, ⟨b0_, b1_, b2_, b3_, b4_, b5_, b6_, b7_, b8_, b9_, b10_⟩, ⟨rf, c1, c2⟩, dd, ⟨e1, e2⟩, e3⟩ := id X
  obtain ⟨⟨p0, p1, p2, p3, p4, p5⟩, q0_, q1_, q2_, q3_, q4_⟩ := id m
  refine (s_X10_kernel l D G b0 τ f t (K 0) a0 u1 (iv_any _) u2 (iv_any _) u3 (iv_any _)).post (fun r f1 hp => ?_)
  obtain ⟨-, t1, r1⟩ := hp
  exact ⟨τ, h.xg t1 r1 (Ex.rf τ) (by decide) (by decide) (by decide)⟩
set_option maxRecDepth 20000 in
theorem lm_31 (l : Launch) (D : va_G) (G : Nat → Nat) (b0 : Nat) {τ : Nat → Nat} {f : hM} {K sh qs M : Nat → Nat} {o : Nat} (h : LI G τ f K sh qs M o) (u1 : Int32) (u2 : Int32) (u3 : Int32) : mI l yX11_kernel cX11_kernel 7 (.int) rm_s_X11_kernel D G b0 f [.ref (M 0), .int u1, .int u2, .int u3] (fun _ f1 => ∃ τ1, LI G τ1 f1 K sh qs M o) := by
  obtain ⟨t, X, g, m, ng, ho, ln, ac, hi, B, rb, rk, ri, xd, md, rQ⟩ := id h
  obtain ⟨⟨a0, a1, a2, a3, a4, a5, a6, a7, a8, a9, a10, a11⟩, ⟨b0_, b1_, b2_, b3_, b4_, b5_, b6_, b7_, b8_, b9_, b10_⟩, ⟨rf, c1, c2⟩, dd, ⟨e1, e2⟩, e3⟩ := id X
  obtain ⟨⟨p0, p1, p2, p3, p4, p5⟩, q0_, q1_, q2_, q3_, q4_⟩ := id m
  refine (s_X11_kernel l D G b0 τ f t (M 0) p0 u1 (iv_any _) u2 (iv_any _) u3 (iv_any _)).post (fun r f1 hp => ?_)
  obtain ⟨-, t1, r1⟩ := hp
  exact ⟨τ, h.mq t1 r1 (ng.fr r1 p0 (by decide)) (by decide) (by decide)⟩
set_option maxRecDepth 20000 in
theorem lx_32 (l : Launch) (D : va_G) (G : Nat → Nat) (b0 : Nat) {τ : Nat → Nat} {f : hM} {K sh qs M : Nat → Nat} {o : Nat} (h : LI G τ f K sh qs M o) (u1 : Int32) (u2 : Int32) (u3 : Int32) (u4 : Int32) : mI l yX10_turned cX10_turned 6 (.int) rm_s_X10_turned D G b0 f [.ref (K 0), .int u1, .int u2, .int u3, .int u4] (fun _ f1 => ∃ τ1, LI G τ1 f1 K sh qs M o) := by
  obtain ⟨t, X, g, m, ng, ho, ln, ac, hi, B, rb, rk, ri, xd, md, rQ⟩ := id h
  obtain ⟨⟨a0, a1, a2, a3, a4, a5, a6, a7, a8, a9, a10, a11⟩, ⟨b0_, b1_, b2_, b3_, b4_, b5_, b6_, b7_, b8_, b9_, b10_⟩, ⟨rf, c1, c2⟩, dd, ⟨e1, e2⟩, e3⟩ := id X
  obtain ⟨⟨p0, p1, p2, p3, p4, p5⟩, q0_, q1_, q2_, q3_, q4_⟩ := id m
  refine (s_X10_turned l D G b0 τ f t (K 0) a0 u1 (iv_any _) u2 (iv_any _) u3 (iv_any _) u4 (iv_any _)).post (fun r f1 hp => ?_)
  obtain ⟨-, t1, r1⟩ := hp
  exact ⟨τ, h.xg t1 r1 (Ex.rf τ) (by decide) (by decide) (by decide)⟩
set_option maxRecDepth 20000 in
theorem lm_32 (l : Launch) (D : va_G) (G : Nat → Nat) (b0 : Nat) {τ : Nat → Nat} {f : hM} {K sh qs M : Nat → Nat} {o : Nat} (h : LI G τ f K sh qs M o) (u1 : Int32) (u2 : Int32) (u3 : Int32) (u4 : Int32) : mI l yX11_turned cX11_turned 5 (.int) rm_s_X11_turned D G b0 f [.ref (M 0), .int u1, .int u2, .int u3, .int u4] (fun _ f1 => ∃ τ1, LI G τ1 f1 K sh qs M o) := by
  obtain ⟨t, X, g, m, ng, ho, ln, ac, hi, B, rb, rk, ri, xd, md, rQ⟩ := id h
  obtain ⟨⟨a0, a1, a2, a3, a4, a5, a6, a7, a8, a9, a10, a11⟩, ⟨b0_, b1_, b2_, b3_, b4_, b5_, b6_, b7_, b8_, b9_, b10_⟩, ⟨rf, c1, c2⟩, dd, ⟨e1, e2⟩, e3⟩ := id X
  obtain ⟨⟨p0, p1, p2, p3, p4, p5⟩, q0_, q1_, q2_, q3_, q4_⟩ := id m
  refine (s_X11_turned l D G b0 τ f t (M 0) p0 u1 (iv_any _) u2 (iv_any _) u3 (iv_any _) u4 (iv_any _)).post (fun r f1 hp => ?_)
  obtain ⟨-, t1, r1⟩ := hp
  exact ⟨τ, h.mq t1 r1 (ng.fr r1 p0 (by decide)) (by decide) (by decide)⟩
set_option maxRecDepth 20000 in
theorem lx_33 (l : Launch) (D : va_G) (G : Nat → Nat) (b0 : Nat) {τ : Nat → Nat} {f : hM} {K sh qs M : Nat → Nat} {o : Nat} (h : LI G τ f K sh qs M o) (u1 : Int32) (u2 : Int32) (u3 : Int32) (u4 : Int32) (u5 : Int32) : mI l yX10_orbit cX10_orbit 9 (.int) rm_s_X10_orbit D G b0 f [.ref (K 0), .int u1, .int u2, .int u3, .int u4, .int u5] (fun _ f1 => ∃ τ1, LI G τ1 f1 K sh qs M o) := by
  obtain ⟨t, X, g, m, ng, ho, ln, ac, hi, B, rb, rk, ri, xd, md, rQ⟩ := id h
  obtain ⟨⟨a0, a1, a2, a3, a4, a5, a6, a7, a8, a9, a10, a11⟩, ⟨b0_, b1_, b2_, b3_, b4_, b5_, b6_, b7_, b8_, b9_, b10_⟩, ⟨rf, c1, c2⟩, dd, ⟨e1, e2⟩, e3⟩ := id X
  obtain ⟨⟨p0, p1, p2, p3, p4, p5⟩, q0_, q1_, q2_, q3_, q4_⟩ := id m
  refine (s_X10_orbit l D G b0 τ f t (K 0) a0 u1 (iv_any _) u2 (iv_any _) u3 (iv_any _) u4 (iv_any _) u5 (iv_any _)).post (fun r f1 hp => ?_)
  obtain ⟨-, t1, r1⟩ := hp
  exact ⟨τ, h.xg t1 r1 (Ex.rf τ) (by decide) (by decide) (by decide)⟩
set_option maxRecDepth 20000 in
theorem lm_33 (l : Launch) (D : va_G) (G : Nat → Nat) (b0 : Nat) {τ : Nat → Nat} {f : hM} {K sh qs M : Nat → Nat} {o : Nat} (h : LI G τ f K sh qs M o) (u1 : Int32) (u2 : Int32) (u3 : Int32) (u4 : Int32) (u5 : Int32) : mI l yX11_orbit cX11_orbit 7 (.int) rm_s_X11_orbit D G b0 f [.ref (M 0), .int u1, .int u2, .int u3, .int u4, .int u5] (fun _ f1 => ∃ τ1, LI G τ1 f1 K sh qs M o) := by
  obtain ⟨t, X, g, m, ng, ho, ln, ac, hi, B, rb, rk, ri, xd, md, rQ⟩ := id h
  obtain ⟨⟨a0, a1, a2, a3, a4, a5, a6, a7, a8, a9, a10, a11⟩, ⟨b0_, b1_, b2_, b3_, b4_, b5_, b6_, b7_, b8_, b9_, b10_⟩, ⟨rf, c1, c2⟩, dd, ⟨e1, e2⟩, e3⟩ := id X
  obtain ⟨⟨p0, p1, p2, p3, p4, p5⟩, q0_, q1_, q2_, q3_, q4_⟩ := id m
  refine (s_X11_orbit l D G b0 τ f t (M 0) p0 u1 (iv_any _) u2 (iv_any _) u3 (iv_any _) u4 (iv_any _) u5 (iv_any _)).post (fun r f1 hp => ?_)
  obtain ⟨-, t1, r1⟩ := hp
  exact ⟨τ, h.mq t1 r1 (ng.fr r1 p0 (by decide)) (by decide) (by decide)⟩
set_option maxRecDepth 20000 in
theorem lx_34 (l : Launch) (D : va_G) (G : Nat → Nat) (b0 : Nat) {τ : Nat → Nat} {f : hM} {K sh qs M : Nat → Nat} {o : Nat} (h : LI G τ f K sh qs M o) (u1 : Int32) : mI l yX10_group cX10_group 3 (.int) rm_s_X10_group D G b0 f [.ref (K 0), .int u1] (fun _ f1 => ∃ τ1, LI G τ1 f1 K sh qs M o) := by
  obtain ⟨t, X, g, m, ng, ho, ln, ac, hi, B, rb, rk, ri, xd, md, rQ⟩ := id h
  obtain ⟨⟨a0, a1, a2, a3, a4, a5, a6, a7, a8, a9, a10, a11⟩, ⟨b0_, b1_, b2_, b3_, b4_, b5_, b6_, b7_, b8_, b9_, b10_⟩, ⟨rf, c1, c2⟩, dd, ⟨e1, e2⟩, e3⟩ := id X
  obtain ⟨⟨p0, p1, p2, p3, p4, p5⟩, q0_, q1_, q2_, q3_, q4_⟩ := id m
  refine (s_X10_group l D G b0 τ f t (K 0) a0 u1 (iv_any _)).post (fun r f1 hp => ?_)
  obtain ⟨-, t1, r1⟩ := hp
  exact ⟨τ, h.xg t1 r1 (Ex.rf τ) (by decide) (by decide) (by decide)⟩
set_option maxRecDepth 20000 in
theorem lm_34 (l : Launch) (D : va_G) (G : Nat → Nat) (b0 : Nat) {τ : Nat → Nat} {f : hM} {K sh qs M : Nat → Nat} {o : Nat} (h : LI G τ f K sh qs M o) (u1 : Int32) : mI l yX11_group cX11_group 2 (.int) rm_s_X11_group D G b0 f [.ref (M 0), .int u1] (fun _ f1 => ∃ τ1, LI G τ1 f1 K sh qs M o) := by
  obtain ⟨t, X, g, m, ng, ho, ln, ac, hi, B, rb, rk, ri, xd, md, rQ⟩ := id h
  obtain ⟨⟨a0, a1, a2, a3, a4, a5, a6, a7, a8, a9, a10, a11⟩, ⟨b0_, b1_, b2_, b3_, b4_, b5_, b6_, b7_, b8_, b9_, b10_⟩, ⟨rf, c1, c2⟩, dd, ⟨e1, e2⟩, e3⟩ := id X
  obtain ⟨⟨p0, p1, p2, p3, p4, p5⟩, q0_, q1_, q2_, q3_, q4_⟩ := id m
  refine (s_X11_group l D G b0 τ f t (M 0) p0 u1 (iv_any _)).post (fun r f1 hp => ?_)
  obtain ⟨-, t1, r1⟩ := hp
  exact ⟨τ, h.mq t1 r1 (ng.fr r1 p0 (by decide)) (by decide) (by decide)⟩
set_option maxRecDepth 20000 in
theorem lx_35 (l : Launch) (D : va_G) (G : Nat → Nat) (b0 : Nat) {τ : Nat → Nat} {f : hM} {K sh qs M : Nat → Nat} {o : Nat} (h : LI G τ f K sh qs M o) (u1 : Int32) (u2 : Int32) (u3 : Int32) : mI l yX10_sum cX10_sum 6 (.int) rm_s_X10_sum D G b0 f [.ref (K 0), .int u1, .int u2, .int u3] (fun _ f1 => ∃ τ1, LI G τ1 f1 K sh qs M o) := by
  obtain ⟨t, X, g, m, ng, ho, ln, ac, hi, B, rb, rk, ri, xd, md, rQ⟩ := id h
  obtain ⟨⟨a0, a1, a2, a3, a4, a5, a6, a7, a8, a9, a10, a11⟩, ⟨b0_, b1_, b2_, b3_, b4_, b5_, b6_, b7_, b8_, b9_, b10_⟩, ⟨rf, c1, c2⟩, dd, ⟨e1, e2⟩, e3⟩ := id X
  obtain ⟨⟨p0, p1, p2, p3, p4, p5⟩, q0_, q1_, q2_, q3_, q4_⟩ := id m
  refine (s_X10_sum l D G b0 τ f t (K 0) a0 u1 (iv_any _) u2 (iv_any _) u3 (iv_any _)).post (fun r f1 hp => ?_)
  obtain ⟨-, t1, r1⟩ := hp
  exact ⟨τ, h.xg t1 r1 (Ex.rf τ) (by decide) (by decide) (by decide)⟩
set_option maxRecDepth 20000 in
theorem lm_35 (l : Launch) (D : va_G) (G : Nat → Nat) (b0 : Nat) {τ : Nat → Nat} {f : hM} {K sh qs M : Nat → Nat} {o : Nat} (h : LI G τ f K sh qs M o) (u1 : Int32) (u2 : Int32) (u3 : Int32) : mI l yX11_sum cX11_sum 10 (.int) rm_s_X11_sum D G b0 f [.ref (M 0), .int u1, .int u2, .int u3] (fun _ f1 => ∃ τ1, LI G τ1 f1 K sh qs M o) := by
  obtain ⟨t, X, g, m, ng, ho, ln, ac, hi, B, rb, rk, ri, xd, md, rQ⟩ := id h
  obtain ⟨⟨a0, a1, a2, a3, a4, a5, a6, a7, a8, a9, a10, a11⟩, ⟨b0_, b1_, b2_, b3_, b4_, b5_, b6_, b7_, b8_, b9_, b10_⟩, ⟨rf, c1, c2⟩, dd, ⟨e1, e2⟩, e3⟩ := id X
  obtain ⟨⟨p0, p1, p2, p3, p4, p5⟩, q0_, q1_, q2_, q3_, q4_⟩ := id m
  refine (s_X11_sum l D G b0 τ f t (M 0) p0 u1 (iv_any _) u2 (iv_any _) u3 (iv_any _)).post (fun r f1 hp => ?_)
  obtain ⟨-, t1, r1⟩ := hp
  exact ⟨τ, h.mq t1 r1 (ng.fr r1 p0 (by decide)) (by decide) (by decide)⟩
set_option maxRecDepth 20000 in
theorem lx_36 (l : Launch) (D : va_G) (G : Nat → Nat) (b0 : Nat) {τ : Nat → Nat} {f : hM} {K sh qs M : Nat → Nat} {o : Nat} (h : LI G τ f K sh qs M o) (u1 : Int32) : mI l yX10_noUse cX10_noUse 5 (.int) rm_s_X10_noUse D G b0 f [.ref (K 0), .int u1] (fun _ f1 => ∃ τ1, LI G τ1 f1 K sh qs M o) := by
  obtain ⟨t, X, g, m, ng, ho, ln, ac, hi, B, rb, rk, ri, xd, md, rQ⟩ := id h
  obtain ⟨⟨a0, a1, a2, a3, a4, a5, a6, a7, a8, a9, a10, a11⟩, ⟨b0_, b1_, b2_, b3_, b4_, b5_, b6_, b7_, b8_, b9_, b10_⟩, ⟨rf, c1, c2⟩, dd, ⟨e1, e2⟩, e3⟩ := id X
  obtain ⟨⟨p0, p1, p2, p3, p4, p5⟩, q0_, q1_, q2_, q3_, q4_⟩ := id m
  refine (s_X10_noUse l D G b0 τ f t (K 0) a0 u1 (iv_any _) (K 11) (K 12) (K 13) a11 b2_ g).post (fun r f1 hp => ?_)
  obtain ⟨-, t1, r1, g1⟩ := hp
  exact ⟨τ, h.xq t1 r1 (Ex.rf τ) g1 (by decide) (by decide)⟩
set_option maxRecDepth 20000 in
theorem lm_36 (l : Launch) (D : va_G) (G : Nat → Nat) (b0 : Nat) {τ : Nat → Nat} {f : hM} {K sh qs M : Nat → Nat} {o : Nat} (h : LI G τ f K sh qs M o) (u1 : Int32) : mI l yX11_noUse cX11_noUse 7 (.int) rm_s_X11_noUse D G b0 f [.ref (M 0), .int u1] (fun _ f1 => ∃ τ1, LI G τ1 f1 K sh qs M o) := by
  obtain ⟨t, X, g, m, ng, ho, ln, ac, hi, B, rb, rk, ri, xd, md, rQ⟩ := id h
  obtain ⟨⟨a0, a1, a2, a3, a4, a5, a6, a7, a8, a9, a10, a11⟩, ⟨b0_, b1_, b2_, b3_, b4_, b5_, b6_, b7_, b8_, b9_, b10_⟩, ⟨rf, c1, c2⟩, dd, ⟨e1, e2⟩, e3⟩ := id X
  obtain ⟨⟨p0, p1, p2, p3, p4, p5⟩, q0_, q1_, q2_, q3_, q4_⟩ := id m
  refine (s_X11_noUse l D G b0 τ f t (M 0) p0 u1 (iv_any _) ng).post (fun r f1 hp => ?_)
  obtain ⟨-, t1, r1, n1⟩ := hp
  exact ⟨τ, h.mq t1 r1 n1 (by decide) (by decide)⟩
set_option maxRecDepth 20000 in
theorem lx_37 (l : Launch) (D : va_G) (G : Nat → Nat) (b0 : Nat) {τ : Nat → Nat} {f : hM} {K sh qs M : Nat → Nat} {o : Nat} (h : LI G τ f K sh qs M o) (u1 : Int32) : mI l yX10_enough cX10_enough 3 (.int) rm_s_X10_enough D G b0 f [.ref (K 0), .int u1] (fun _ f1 => ∃ τ1, LI G τ1 f1 K sh qs M o) := by
  obtain ⟨t, X, g, m, ng, ho, ln, ac, hi, B, rb, rk, ri, xd, md, rQ⟩ := id h
  obtain ⟨⟨a0, a1, a2, a3, a4, a5, a6, a7, a8, a9, a10, a11⟩, ⟨b0_, b1_, b2_, b3_, b4_, b5_, b6_, b7_, b8_, b9_, b10_⟩, ⟨rf, c1, c2⟩, dd, ⟨e1, e2⟩, e3⟩ := id X
  obtain ⟨⟨p0, p1, p2, p3, p4, p5⟩, q0_, q1_, q2_, q3_, q4_⟩ := id m
  refine (s_X10_enough l D G b0 τ f t (K 0) a0 u1 (iv_any _) (K 11) (K 12) (K 13) a11 b2_ g).post (fun r f1 hp => ?_)
  obtain ⟨τ1, x1, -, t1, r1, g1⟩ := hp
  exact ⟨τ1, h.xq t1 r1 x1 g1 (by decide) (by decide)⟩
set_option maxRecDepth 20000 in
theorem lm_37 (l : Launch) (D : va_G) (G : Nat → Nat) (b0 : Nat) {τ : Nat → Nat} {f : hM} {K sh qs M : Nat → Nat} {o : Nat} (h : LI G τ f K sh qs M o) (u1 : Int32) : mI l yX11_enough cX11_enough 2 (.int) rm_s_X11_enough D G b0 f [.ref (M 0), .int u1] (fun _ f1 => ∃ τ1, LI G τ1 f1 K sh qs M o) := by
  obtain ⟨t, X, g, m, ng, ho, ln, ac, hi, B, rb, rk, ri, xd, md, rQ⟩ := id h
  obtain ⟨⟨a0, a1, a2, a3, a4, a5, a6, a7, a8, a9, a10, a11⟩, ⟨b0_, b1_, b2_, b3_, b4_, b5_, b6_, b7_, b8_, b9_, b10_⟩, ⟨rf, c1, c2⟩, dd, ⟨e1, e2⟩, e3⟩ := id X
  obtain ⟨⟨p0, p1, p2, p3, p4, p5⟩, q0_, q1_, q2_, q3_, q4_⟩ := id m
  refine (s_X11_enough l D G b0 τ f t (M 0) p0 u1 (iv_any _) ng).post (fun r f1 hp => ?_)
  obtain ⟨-, t1, r1, n1⟩ := hp
  exact ⟨τ, h.mq t1 r1 n1 (by decide) (by decide)⟩
set_option maxRecDepth 20000 in
theorem lx_38 (l : Launch) (D : va_G) (G : Nat → Nat) (b0 : Nat) {τ : Nat → Nat} {f : hM} {K sh qs M : Nat → Nat} {o : Nat} (h : LI G τ f K sh qs M o) (u1 : Int32) : mI l yX10_alike cX10_alike 5 (.int) rm_s_X10_alike D G b0 f [.ref (K 0), .int u1] (fun _ f1 => ∃ τ1, LI G τ1 f1 K sh qs M o) := by
  obtain ⟨t, X, g, m, ng, ho, ln, ac, hi, B, rb, rk, ri, xd, md, rQ⟩ := id h
  obtain ⟨⟨a0, a1, a2, a3, a4, a5, a6, a7, a8, a9, a10, a11⟩, ⟨b0_, b1_, b2_, b3_, b4_, b5_, b6_, b7_, b8_, b9_, b10_⟩, ⟨rf, c1, c2⟩, dd, ⟨e1, e2⟩, e3⟩ := id X
  obtain ⟨⟨p0, p1, p2, p3, p4, p5⟩, q0_, q1_, q2_, q3_, q4_⟩ := id m
  obtain ⟨-, -, -, -, -, -, -, -, -, ⟨sz, ρ, z0, z1, z2, z3, z4, z5⟩, -⟩ := xd
  refine (s_X10_alike l D G b0 τ f t (K 0) a0 u1 (iv_any _) (K 4) a4 b1_ (K 6) a6 b6_ (K 7) a7 b9_ sz z0 z1 (K 11) (K 12) (K 13) a11 b2_ g ρ z2 (fun j hj => by obtain ⟨q, y1, -⟩ := z4 j hj; rw [y1]; exact fun z => by cases z)).post (fun r f1 hp => ?_)
  obtain ⟨τ1, x1, -, t1, r1, g1⟩ := hp
  exact ⟨τ1, h.xq t1 r1 x1 g1 (by decide) (by decide)⟩
set_option maxRecDepth 20000 in
theorem lm_38 (l : Launch) (D : va_G) (G : Nat → Nat) (b0 : Nat) {τ : Nat → Nat} {f : hM} {K sh qs M : Nat → Nat} {o : Nat} (h : LI G τ f K sh qs M o) (u1 : Int32) : mI l yX11_alike cX11_alike 3 (.int) rm_s_X11_alikeX D G b0 f [.ref (M 0), .int u1] (fun _ f1 => ∃ τ1, LI G τ1 f1 K sh qs M o) := by
  obtain ⟨t, X, g, m, ng, ho, ln, ac, hi, B, rb, rk, ri, xd, md, rQ⟩ := id h
  obtain ⟨⟨a0, a1, a2, a3, a4, a5, a6, a7, a8, a9, a10, a11⟩, ⟨b0_, b1_, b2_, b3_, b4_, b5_, b6_, b7_, b8_, b9_, b10_⟩, ⟨rf, c1, c2⟩, dd, ⟨e1, e2⟩, e3⟩ := id X
  obtain ⟨⟨p0, p1, p2, p3, p4, p5⟩, q0_, q1_, q2_, q3_, q4_⟩ := id m
  obtain ⟨ln', ac', hi', rt, -, -, -, ⟨k4, k5, k6, k7⟩, hB⟩ := md
  obtain ⟨tm, htm, ktm⟩ := t.fref p0 (by decide) wf_60 15 rfl
  obtain ⟨ot, hot, kot⟩ := t.fref p0 (by decide) wf_60 16 rfl
  obtain ⟨rt2, hrt⟩ := t.ia (tg := 69) htm (by decide) wf_69
  obtain ⟨ro, hro⟩ := t.ia (tg := 78) hot (by decide) wf_78
  refine (s_X11_alikeX l D G b0 τ f t (M 0) p0 u1 (iv_any _) (M 2) p2 q1_ tm htm ktm ot hot kot rb k5 rt2 hrt ro hro ng).post (fun r f1 hp => ?_)
  obtain ⟨-, t1, r1, n1⟩ := hp
  exact ⟨τ, h.mq t1 r1 n1 (by decide) (by decide)⟩
set_option maxRecDepth 20000 in
theorem lx_39 (l : Launch) (D : va_G) (G : Nat → Nat) (b0 : Nat) {τ : Nat → Nat} {f : hM} {K sh qs M : Nat → Nat} {o : Nat} (h : LI G τ f K sh qs M o) (u1 : Int32) (u2 : Int32) (u3 : Int32) (u4 : Int32) (u5 : Int32) (u6 : Int32) : mI l yX10_recurrence cX10_recurrence 8 (.int) rm_s_X10_recurrence D G b0 f [.ref (K 0), .int u1, .int u2, .int u3, .int u4, .int u5, .int u6] (fun _ f1 => ∃ τ1, LI G τ1 f1 K sh qs M o) := by
  obtain ⟨t, X, g, m, ng, ho, ln, ac, hi, B, rb, rk, ri, xd, md, rQ⟩ := id h
  obtain ⟨⟨a0, a1, a2, a3, a4, a5, a6, a7, a8, a9, a10, a11⟩, ⟨b0_, b1_, b2_, b3_, b4_, b5_, b6_, b7_, b8_, b9_, b10_⟩, ⟨rf, c1, c2⟩, dd, ⟨e1, e2⟩, e3⟩ := id X
  obtain ⟨⟨p0, p1, p2, p3, p4, p5⟩, q0_, q1_, q2_, q3_, q4_⟩ := id m
  refine (s_X10_recurrence l D G b0 τ f t (K 0) a0 u1 (iv_any _) u2 (iv_any _) u3 (iv_any _) u4 (iv_any _) u5 (iv_any _) u6 (iv_any _) (K 11) (K 12) (K 13) a11 b2_ g).post (fun r f1 hp => ?_)
  obtain ⟨τ1, x1, -, t1, r1, g1⟩ := hp
  exact ⟨τ1, h.xq t1 r1 x1 g1 (by decide) (by decide)⟩
set_option maxRecDepth 20000 in
theorem lm_39 (l : Launch) (D : va_G) (G : Nat → Nat) (b0 : Nat) {τ : Nat → Nat} {f : hM} {K sh qs M : Nat → Nat} {o : Nat} (h : LI G τ f K sh qs M o) (u1 : Int32) (u2 : Int32) (u3 : Int32) (u4 : Int32) (u5 : Int32) (u6 : Int32) : mI l yX11_recurrence cX11_recurrence 7 (.int) rm_s_X11_recurrence D G b0 f [.ref (M 0), .int u1, .int u2, .int u3, .int u4, .int u5, .int u6] (fun _ f1 => ∃ τ1, LI G τ1 f1 K sh qs M o) := by
  obtain ⟨t, X, g, m, ng, ho, ln, ac, hi, B, rb, rk, ri, xd, md, rQ⟩ := id h
  obtain ⟨⟨a0, a1, a2, a3, a4, a5, a6, a7, a8, a9, a10, a11⟩, ⟨b0_, b1_, b2_, b3_, b4_, b5_, b6_, b7_, b8_, b9_, b10_⟩, ⟨rf, c1, c2⟩, dd, ⟨e1, e2⟩, e3⟩ := id X
  obtain ⟨⟨p0, p1, p2, p3, p4, p5⟩, q0_, q1_, q2_, q3_, q4_⟩ := id m
  refine (s_X11_recurrence l D G b0 τ f t (M 0) p0 u1 (iv_any _) u2 (iv_any _) u3 (iv_any _) u4 (iv_any _) u5 (iv_any _) u6 (iv_any _) ng).post (fun r f1 hp => ?_)
  obtain ⟨-, t1, r1, n1⟩ := hp
  exact ⟨τ, h.mq t1 r1 n1 (by decide) (by decide)⟩
set_option maxRecDepth 20000 in
theorem lx_40 (l : Launch) (D : va_G) (G : Nat → Nat) (b0 : Nat) {τ : Nat → Nat} {f : hM} {K sh qs M : Nat → Nat} {o : Nat} (h : LI G τ f K sh qs M o) (u1 : Int32) (u2 : Int32) (u3 : Int32) (u4 : Int32) : mI l yX10_fails cX10_fails 5 (.int) rm_s_X10_fails D G b0 f [.ref (K 0), .int u1, .int u2, .int u3, .int u4] (fun _ f1 => ∃ τ1, LI G τ1 f1 K sh qs M o) := by
  obtain ⟨t, X, g, m, ng, ho, ln, ac, hi, B, rb, rk, ri, xd, md, rQ⟩ := id h
  obtain ⟨⟨a0, a1, a2, a3, a4, a5, a6, a7, a8, a9, a10, a11⟩, ⟨b0_, b1_, b2_, b3_, b4_, b5_, b6_, b7_, b8_, b9_, b10_⟩, ⟨rf, c1, c2⟩, dd, ⟨e1, e2⟩, e3⟩ := id X
  obtain ⟨⟨p0, p1, p2, p3, p4, p5⟩, q0_, q1_, q2_, q3_, q4_⟩ := id m
  refine (s_X10_fails l D G b0 τ f t (K 0) a0 u1 (iv_any _) u2 (iv_any _) u3 (iv_any _) u4 (iv_any _) (K 11) (K 12) (K 13) a11 b2_ g).post (fun r f1 hp => ?_)
  obtain ⟨τ1, x1, -, t1, r1, g1⟩ := hp
  exact ⟨τ1, h.xq t1 r1 x1 g1 (by decide) (by decide)⟩
set_option maxRecDepth 20000 in
theorem lm_40 (l : Launch) (D : va_G) (G : Nat → Nat) (b0 : Nat) {τ : Nat → Nat} {f : hM} {K sh qs M : Nat → Nat} {o : Nat} (h : LI G τ f K sh qs M o) (u1 : Int32) (u2 : Int32) (u3 : Int32) (u4 : Int32) : mI l yX11_fails_ cX11_fails_ 5 (.int) rm_s_X11_fails_ D G b0 f [.ref (M 0), .int u1, .int u2, .int u3, .int u4] (fun _ f1 => ∃ τ1, LI G τ1 f1 K sh qs M o) := by
  obtain ⟨t, X, g, m, ng, ho, ln, ac, hi, B, rb, rk, ri, xd, md, rQ⟩ := id h
  obtain ⟨⟨a0, a1, a2, a3, a4, a5, a6, a7, a8, a9, a10, a11⟩, ⟨b0_, b1_, b2_, b3_, b4_, b5_, b6_, b7_, b8_, b9_, b10_⟩, ⟨rf, c1, c2⟩, dd, ⟨e1, e2⟩, e3⟩ := id X
  obtain ⟨⟨p0, p1, p2, p3, p4, p5⟩, q0_, q1_, q2_, q3_, q4_⟩ := id m
  refine (s_X11_fails_ l D G b0 τ f t (M 0) p0 u1 (iv_any _) u2 (iv_any _) u3 (iv_any _) u4 (iv_any _) ng).post (fun r f1 hp => ?_)
  obtain ⟨-, t1, r1, n1⟩ := hp
  exact ⟨τ, h.mq t1 r1 n1 (by decide) (by decide)⟩
set_option maxRecDepth 20000 in
theorem lx_41 (l : Launch) (D : va_G) (G : Nat → Nat) (b0 : Nat) {τ : Nat → Nat} {f : hM} {K sh qs M : Nat → Nat} {o : Nat} (h : LI G τ f K sh qs M o) (u1 : Int32) (u2 : Int32) (u3 : Int32) (u4 : Int32) (u5 : Int32) (u6 : Int32) : mI l yX10_equation cX10_equation 8 (.int) rm_s_X10_equation D G b0 f [.ref (K 0), .int u1, .int u2, .int u3, .int u4, .int u5, .int u6] (fun _ f1 => ∃ τ1, LI G τ1 f1 K sh qs M o) := by
  obtain ⟨t, X, g, m, ng, ho, ln, ac, hi, B, rb, rk, ri, xd, md, rQ⟩ := id h
  obtain ⟨⟨a0, a1, a2, a3, a4, a5, a6, a7, a8, a9, a10, a11⟩, ⟨b0_, b1_, b2_, b3_, b4_, b5_, b6_, b7_, b8_, b9_, b10_⟩, ⟨rf, c1, c2⟩, dd, ⟨e1, e2⟩, e3⟩ := id X
  obtain ⟨⟨p0, p1, p2, p3, p4, p5⟩, q0_, q1_, q2_, q3_, q4_⟩ := id m
  refine (s_X10_equation l D G b0 τ f t (K 0) a0 u1 (iv_any _) u2 (iv_any _) u3 (iv_any _) u4 (iv_any _) u5 (iv_any _) u6 (iv_any _) (K 11) (K 12) (K 13) a11 b2_ g).post (fun r f1 hp => ?_)
  obtain ⟨τ1, x1, -, t1, r1, g1⟩ := hp
  exact ⟨τ1, h.xq t1 r1 x1 g1 (by decide) (by decide)⟩
set_option maxRecDepth 20000 in
theorem lm_41 (l : Launch) (D : va_G) (G : Nat → Nat) (b0 : Nat) {τ : Nat → Nat} {f : hM} {K sh qs M : Nat → Nat} {o : Nat} (h : LI G τ f K sh qs M o) (u1 : Int32) (u2 : Int32) (u3 : Int32) (u4 : Int32) (u5 : Int32) (u6 : Int32) : mI l yX11_equation cX11_equation 7 (.int) rm_s_X11_equation D G b0 f [.ref (M 0), .int u1, .int u2, .int u3, .int u4, .int u5, .int u6] (fun _ f1 => ∃ τ1, LI G τ1 f1 K sh qs M o) := by
  obtain ⟨t, X, g, m, ng, ho, ln, ac, hi, B, rb, rk, ri, xd, md, rQ⟩ := id h
  obtain ⟨⟨a0, a1, a2, a3, a4, a5, a6, a7, a8, a9, a10, a11⟩, ⟨b0_, b1_, b2_, b3_, b4_, b5_, b6_, b7_, b8_, b9_, b10_⟩, ⟨rf, c1, c2⟩, dd, ⟨e1, e2⟩, e3⟩ := id X
  obtain ⟨⟨p0, p1, p2, p3, p4, p5⟩, q0_, q1_, q2_, q3_, q4_⟩ := id m
  refine (s_X11_equation l D G b0 τ f t (M 0) p0 u1 (iv_any _) u2 (iv_any _) u3 (iv_any _) u4 (iv_any _) u5 (iv_any _) u6 (iv_any _) ng).post (fun r f1 hp => ?_)
  obtain ⟨-, t1, r1, n1⟩ := hp
  exact ⟨τ, h.mq t1 r1 n1 (by decide) (by decide)⟩
set_option maxRecDepth 20000 in
theorem lx_42 (l : Launch) (D : va_G) (G : Nat → Nat) (b0 : Nat) {τ : Nat → Nat} {f : hM} {K sh qs M : Nat → Nat} {o : Nat} (h : LI G τ f K sh qs M o) (u1 : Int32) (u2 : Int32) (u3 : Int32) (u4 : Int32) : mI l yX10_breaks cX10_breaks 5 (.int) rm_s_X10_breaks D G b0 f [.ref (K 0), .int u1, .int u2, .int u3, .int u4] (fun _ f1 => ∃ τ1, LI G τ1 f1 K sh qs M o) := by
  obtain ⟨t, X, g, m, ng, ho, ln, ac, hi, B, rb, rk, ri, xd, md, rQ⟩ := id h
  obtain ⟨⟨a0, a1, a2, a3, a4, a5, a6, a7, a8, a9, a10, a11⟩, ⟨b0_, b1_, b2_, b3_, b4_, b5_, b6_, b7_, b8_, b9_, b10_⟩, ⟨rf, c1, c2⟩, dd, ⟨e1, e2⟩, e3⟩ := id X
  obtain ⟨⟨p0, p1, p2, p3, p4, p5⟩, q0_, q1_, q2_, q3_, q4_⟩ := id m
  refine (s_X10_breaks l D G b0 τ f t (K 0) a0 u1 (iv_any _) u2 (iv_any _) u3 (iv_any _) u4 (iv_any _) (K 11) (K 12) (K 13) a11 b2_ g).post (fun r f1 hp => ?_)
  obtain ⟨τ1, x1, -, t1, r1, g1⟩ := hp
  exact ⟨τ1, h.xq t1 r1 x1 g1 (by decide) (by decide)⟩
set_option maxRecDepth 20000 in
theorem lm_42 (l : Launch) (D : va_G) (G : Nat → Nat) (b0 : Nat) {τ : Nat → Nat} {f : hM} {K sh qs M : Nat → Nat} {o : Nat} (h : LI G τ f K sh qs M o) (u1 : Int32) (u2 : Int32) (u3 : Int32) (u4 : Int32) : mI l yX11_breaks cX11_breaks 5 (.int) rm_s_X11_breaks D G b0 f [.ref (M 0), .int u1, .int u2, .int u3, .int u4] (fun _ f1 => ∃ τ1, LI G τ1 f1 K sh qs M o) := by
  obtain ⟨t, X, g, m, ng, ho, ln, ac, hi, B, rb, rk, ri, xd, md, rQ⟩ := id h
  obtain ⟨⟨a0, a1, a2, a3, a4, a5, a6, a7, a8, a9, a10, a11⟩, ⟨b0_, b1_, b2_, b3_, b4_, b5_, b6_, b7_, b8_, b9_, b10_⟩, ⟨rf, c1, c2⟩, dd, ⟨e1, e2⟩, e3⟩ := id X
  obtain ⟨⟨p0, p1, p2, p3, p4, p5⟩, q0_, q1_, q2_, q3_, q4_⟩ := id m
  refine (s_X11_breaks l D G b0 τ f t (M 0) p0 u1 (iv_any _) u2 (iv_any _) u3 (iv_any _) u4 (iv_any _) ng).post (fun r f1 hp => ?_)
  obtain ⟨-, t1, r1, n1⟩ := hp
  exact ⟨τ, h.mq t1 r1 n1 (by decide) (by decide)⟩
set_option maxRecDepth 20000 in
theorem lx_43 (l : Launch) (D : va_G) (G : Nat → Nat) (b0 : Nat) {τ : Nat → Nat} {f : hM} {K sh qs M : Nat → Nat} {o : Nat} (h : LI G τ f K sh qs M o) (u1 : Int32) (u2 : Int32) (u3 : Int32) : mI l yX10_least cX10_least 5 (.int) rm_s_X10_least D G b0 f [.ref (K 0), .int u1, .int u2, .int u3] (fun _ f1 => ∃ τ1, LI G τ1 f1 K sh qs M o) := by
  obtain ⟨t, X, g, m, ng, ho, ln, ac, hi, B, rb, rk, ri, xd, md, rQ⟩ := id h
  obtain ⟨⟨a0, a1, a2, a3, a4, a5, a6, a7, a8, a9, a10, a11⟩, ⟨b0_, b1_, b2_, b3_, b4_, b5_, b6_, b7_, b8_, b9_, b10_⟩, ⟨rf, c1, c2⟩, dd, ⟨e1, e2⟩, e3⟩ := id X
  obtain ⟨⟨p0, p1, p2, p3, p4, p5⟩, q0_, q1_, q2_, q3_, q4_⟩ := id m
  refine (s_X10_least l D G b0 τ f t (K 0) a0 u1 (iv_any _) u2 (iv_any _) u3 (iv_any _) (K 11) (K 12) (K 13) a11 b2_ g).post (fun r f1 hp => ?_)
  obtain ⟨τ1, x1, -, t1, r1, g1⟩ := hp
  exact ⟨τ1, h.xq t1 r1 x1 g1 (by decide) (by decide)⟩
set_option maxRecDepth 20000 in
theorem lm_43 (l : Launch) (D : va_G) (G : Nat → Nat) (b0 : Nat) {τ : Nat → Nat} {f : hM} {K sh qs M : Nat → Nat} {o : Nat} (h : LI G τ f K sh qs M o) (u1 : Int32) (u2 : Int32) (u3 : Int32) : mI l yX11_least cX11_least 9 (.int) rm_s_X11_least D G b0 f [.ref (M 0), .int u1, .int u2, .int u3] (fun _ f1 => ∃ τ1, LI G τ1 f1 K sh qs M o) := by
  obtain ⟨t, X, g, m, ng, ho, ln, ac, hi, B, rb, rk, ri, xd, md, rQ⟩ := id h
  obtain ⟨⟨a0, a1, a2, a3, a4, a5, a6, a7, a8, a9, a10, a11⟩, ⟨b0_, b1_, b2_, b3_, b4_, b5_, b6_, b7_, b8_, b9_, b10_⟩, ⟨rf, c1, c2⟩, dd, ⟨e1, e2⟩, e3⟩ := id X
  obtain ⟨⟨p0, p1, p2, p3, p4, p5⟩, q0_, q1_, q2_, q3_, q4_⟩ := id m
  refine (s_X11_least l D G b0 τ f t (M 0) p0 u1 (iv_any _) u2 (iv_any _) u3 (iv_any _) ng).post (fun r f1 hp => ?_)
  obtain ⟨-, t1, r1, n1⟩ := hp
  exact ⟨τ, h.mq t1 r1 n1 (by decide) (by decide)⟩
set_option maxRecDepth 20000 in
theorem lx_44 (l : Launch) (D : va_G) (G : Nat → Nat) (b0 : Nat) {τ : Nat → Nat} {f : hM} {K sh qs M : Nat → Nat} {o : Nat} (h : LI G τ f K sh qs M o) (u1 : Int32) (u2 : Int32) : mI l yX10_written cX10_written 4 (.int) rm_s_X10_writtenX D G b0 f [.ref (K 0), .int u1, .int u2] (fun _ f1 => ∃ τ1, LI G τ1 f1 K sh qs M o) := by
  obtain ⟨t, X, g, m, ng, ho, ln, ac, hi, B, rb, rk, ri, xd, md, rQ⟩ := id h
  obtain ⟨⟨a0, a1, a2, a3, a4, a5, a6, a7, a8, a9, a10, a11⟩, ⟨b0_, b1_, b2_, b3_, b4_, b5_, b6_, b7_, b8_, b9_, b10_⟩, ⟨rf, c1, c2⟩, dd, ⟨e1, e2⟩, e3⟩ := id X
  obtain ⟨⟨p0, p1, p2, p3, p4, p5⟩, q0_, q1_, q2_, q3_, q4_⟩ := id m
  refine (s_X10_writtenX l D G b0 τ f t (K 0) a0 u1 (iv_any _) u2 (iv_any _) (K 11) (K 12) (K 13) a11 b2_ g).post (fun r f1 hp => ?_)
  obtain ⟨τ1, x1, -, t1, r1, g1⟩ := hp
  exact ⟨τ1, h.xq t1 r1 x1 g1 (by decide) (by decide)⟩
set_option maxRecDepth 20000 in
theorem lm_44 (l : Launch) (D : va_G) (G : Nat → Nat) (b0 : Nat) {τ : Nat → Nat} {f : hM} {K sh qs M : Nat → Nat} {o : Nat} (h : LI G τ f K sh qs M o) (u1 : Int32) (u2 : Int32) : mI l yX11_written cX11_written 3 (.int) rm_s_X11_writtenX D G b0 f [.ref (M 0), .int u1, .int u2] (fun _ f1 => ∃ τ1, LI G τ1 f1 K sh qs M o) := by
  obtain ⟨t, X, g, m, ng, ho, ln, ac, hi, B, rb, rk, ri, xd, md, rQ⟩ := id h
  obtain ⟨⟨a0, a1, a2, a3, a4, a5, a6, a7, a8, a9, a10, a11⟩, ⟨b0_, b1_, b2_, b3_, b4_, b5_, b6_, b7_, b8_, b9_, b10_⟩, ⟨rf, c1, c2⟩, dd, ⟨e1, e2⟩, e3⟩ := id X
  obtain ⟨⟨p0, p1, p2, p3, p4, p5⟩, q0_, q1_, q2_, q3_, q4_⟩ := id m
  refine (s_X11_writtenX l D G b0 τ f t (M 0) p0 u1 (iv_any _) u2 (iv_any _)).post (fun r f1 hp => ?_)
  obtain ⟨-, t1, r1⟩ := hp
  exact ⟨τ, h.mq t1 r1 (ng.fr r1 p0 (by decide)) (by decide) (by decide)⟩
set_option maxRecDepth 20000 in
theorem lx_48 (l : Launch) (D : va_G) (G : Nat → Nat) (b0 : Nat) {τ : Nat → Nat} {f : hM} {K sh qs M : Nat → Nat} {o : Nat} (h : LI G τ f K sh qs M o) (u1 : Int32) : mI l yX10_status cX10_status 2 (.int) rm_s_X10_status D G b0 f [.ref (K 0), .int u1] (fun _ f1 => ∃ τ1, LI G τ1 f1 K sh qs M o) := by
  obtain ⟨t, X, g, m, ng, ho, ln, ac, hi, B, rb, rk, ri, xd, md, rQ⟩ := id h
  obtain ⟨⟨a0, a1, a2, a3, a4, a5, a6, a7, a8, a9, a10, a11⟩, ⟨b0_, b1_, b2_, b3_, b4_, b5_, b6_, b7_, b8_, b9_, b10_⟩, ⟨rf, c1, c2⟩, dd, ⟨e1, e2⟩, e3⟩ := id X
  obtain ⟨⟨p0, p1, p2, p3, p4, p5⟩, q0_, q1_, q2_, q3_, q4_⟩ := id m
  refine (s_X10_status l D G b0 τ f t (K 0) a0 u1 (iv_any _)).post (fun r f1 hp => ?_)
  obtain ⟨-, t1, r1⟩ := hp
  exact ⟨τ, h.xg t1 r1 (Ex.rf τ) (by decide) (by decide) (by decide)⟩
set_option maxRecDepth 20000 in
theorem lm_48 (l : Launch) (D : va_G) (G : Nat → Nat) (b0 : Nat) {τ : Nat → Nat} {f : hM} {K sh qs M : Nat → Nat} {o : Nat} (h : LI G τ f K sh qs M o) (u1 : Int32) : mI l yX11_status cX11_status 2 (.int) rm_s_X11_status D G b0 f [.ref (M 0), .int u1] (fun _ f1 => ∃ τ1, LI G τ1 f1 K sh qs M o) := by
  obtain ⟨t, X, g, m, ng, ho, ln, ac, hi, B, rb, rk, ri, xd, md, rQ⟩ := id h
  obtain ⟨⟨a0, a1, a2, a3, a4, a5, a6, a7, a8, a9, a10, a11⟩, ⟨b0_, b1_, b2_, b3_, b4_, b5_, b6_, b7_, b8_, b9_, b10_⟩, ⟨rf, c1, c2⟩, dd, ⟨e1, e2⟩, e3⟩ := id X
  obtain ⟨⟨p0, p1, p2, p3, p4, p5⟩, q0_, q1_, q2_, q3_, q4_⟩ := id m
  refine (s_X11_status l D G b0 τ f t (M 0) p0 u1 (iv_any _)).post (fun r f1 hp => ?_)
  obtain ⟨-, t1, r1⟩ := hp
  exact ⟨τ, h.mq t1 r1 (ng.fr r1 p0 (by decide)) (by decide) (by decide)⟩
set_option maxRecDepth 20000 in
theorem lx_49 (l : Launch) (D : va_G) (G : Nat → Nat) (b0 : Nat) {τ : Nat → Nat} {f : hM} {K sh qs M : Nat → Nat} {o : Nat} (h : LI G τ f K sh qs M o) (u1 : Int32) : mI l yX10_most cX10_most 2 (.int) rm_s_X10_most D G b0 f [.ref (K 0), .int u1] (fun _ f1 => ∃ τ1, LI G τ1 f1 K sh qs M o) := by
  obtain ⟨t, X, g, m, ng, ho, ln, ac, hi, B, rb, rk, ri, xd, md, rQ⟩ := id h
  obtain ⟨⟨a0, a1, a2, a3, a4, a5, a6, a7, a8, a9, a10, a11⟩, ⟨b0_, b1_, b2_, b3_, b4_, b5_, b6_, b7_, b8_, b9_, b10_⟩, ⟨rf, c1, c2⟩, dd, ⟨e1, e2⟩, e3⟩ := id X
  obtain ⟨⟨p0, p1, p2, p3, p4, p5⟩, q0_, q1_, q2_, q3_, q4_⟩ := id m
  refine (s_X10_most l D G b0 τ f t (K 0) a0 u1 (iv_any _)).post (fun r f1 hp => ?_)
  obtain ⟨-, t1, r1⟩ := hp
  exact ⟨τ, h.xg t1 r1 (Ex.rf τ) (by decide) (by decide) (by decide)⟩
set_option maxRecDepth 20000 in
theorem lm_49 (l : Launch) (D : va_G) (G : Nat → Nat) (b0 : Nat) {τ : Nat → Nat} {f : hM} {K sh qs M : Nat → Nat} {o : Nat} (h : LI G τ f K sh qs M o) (u1 : Int32) : mI l yX11_most cX11_most 4 (.int) rm_s_X11_most D G b0 f [.ref (M 0), .int u1] (fun _ f1 => ∃ τ1, LI G τ1 f1 K sh qs M o) := by
  obtain ⟨t, X, g, m, ng, ho, ln, ac, hi, B, rb, rk, ri, xd, md, rQ⟩ := id h
  obtain ⟨⟨a0, a1, a2, a3, a4, a5, a6, a7, a8, a9, a10, a11⟩, ⟨b0_, b1_, b2_, b3_, b4_, b5_, b6_, b7_, b8_, b9_, b10_⟩, ⟨rf, c1, c2⟩, dd, ⟨e1, e2⟩, e3⟩ := id X
  obtain ⟨⟨p0, p1, p2, p3, p4, p5⟩, q0_, q1_, q2_, q3_, q4_⟩ := id m
  refine (s_X11_most l D G b0 τ f t (M 0) p0 u1 (iv_any _)).post (fun r f1 hp => ?_)
  obtain ⟨-, t1, r1⟩ := hp
  exact ⟨τ, h.mq t1 r1 (ng.fr r1 p0 (by decide)) (by decide) (by decide)⟩
set_option maxRecDepth 20000 in
theorem lx_50 (l : Launch) (D : va_G) (G : Nat → Nat) (b0 : Nat) {τ : Nat → Nat} {f : hM} {K sh qs M : Nat → Nat} {o : Nat} (h : LI G τ f K sh qs M o) (u1 : Int32) : mI l yX10_count cX10_count 2 (.int) rm_s_X10_count D G b0 f [.ref (K 0), .int u1] (fun _ f1 => ∃ τ1, LI G τ1 f1 K sh qs M o) := by
  obtain ⟨t, X, g, m, ng, ho, ln, ac, hi, B, rb, rk, ri, xd, md, rQ⟩ := id h
  obtain ⟨⟨a0, a1, a2, a3, a4, a5, a6, a7, a8, a9, a10, a11⟩, ⟨b0_, b1_, b2_, b3_, b4_, b5_, b6_, b7_, b8_, b9_, b10_⟩, ⟨rf, c1, c2⟩, dd, ⟨e1, e2⟩, e3⟩ := id X
  obtain ⟨⟨p0, p1, p2, p3, p4, p5⟩, q0_, q1_, q2_, q3_, q4_⟩ := id m
  refine (s_X10_count l D G b0 τ f t (K 0) a0 u1 (iv_any _)).post (fun r f1 hp => ?_)
  obtain ⟨-, t1, r1⟩ := hp
  exact ⟨τ, h.xg t1 r1 (Ex.rf τ) (by decide) (by decide) (by decide)⟩
set_option maxRecDepth 20000 in
theorem lm_50 (l : Launch) (D : va_G) (G : Nat → Nat) (b0 : Nat) {τ : Nat → Nat} {f : hM} {K sh qs M : Nat → Nat} {o : Nat} (h : LI G τ f K sh qs M o) (u1 : Int32) : mI l yX11_count cX11_count 2 (.int) rm_s_X11_count D G b0 f [.ref (M 0), .int u1] (fun _ f1 => ∃ τ1, LI G τ1 f1 K sh qs M o) := by
  obtain ⟨t, X, g, m, ng, ho, ln, ac, hi, B, rb, rk, ri, xd, md, rQ⟩ := id h
  obtain ⟨⟨a0, a1, a2, a3, a4, a5, a6, a7, a8, a9, a10, a11⟩, ⟨b0_, b1_, b2_, b3_, b4_, b5_, b6_, b7_, b8_, b9_, b10_⟩, ⟨rf, c1, c2⟩, dd, ⟨e1, e2⟩, e3⟩ := id X
  obtain ⟨⟨p0, p1, p2, p3, p4, p5⟩, q0_, q1_, q2_, q3_, q4_⟩ := id m
  refine (s_X11_count l D G b0 τ f t (M 0) p0 u1 (iv_any _)).post (fun r f1 hp => ?_)
  obtain ⟨-, t1, r1⟩ := hp
  exact ⟨τ, h.mq t1 r1 (ng.fr r1 p0 (by decide)) (by decide) (by decide)⟩
