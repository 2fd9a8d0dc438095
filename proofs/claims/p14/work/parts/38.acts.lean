/-! ===== acts against the invariant, call by call ===== -/
theorem smallA_ok {G : Nat → Nat} {τ : Nat → Nat} {f : hM} {K sh qs : Nat → Nat} (X : XK G τ f K sh qs) : (∀ a ∈ [K 7, K 6, K 4], τ a ≠ 1 ∧ τ a ≠ 2) ∧ (K 8 ∉ [K 7, K 6, K 4] ∧ K 9 ∉ [K 7, K 6, K 4]) ∧ ∀ j : Nat, j < 12 → sh j ∉ [K 7, K 6, K 4] ∧ qs j ∉ [K 7, K 6, K 4] := by
  obtain ⟨⟨a0, a1, a2, a3, a4, a5, a6, a7, a8, a9, a10, a11⟩, -, -, d, ⟨e1, e2⟩, e3⟩ := X
  have tt : ∀ {x y : Nat}, τ x ≠ τ y → x ≠ y := fun h z => h (by rw [z])
  have L : ∀ z : Nat, z ∉ [K 7, K 6, K 4] ↔ (z ≠ K 7 ∧ z ≠ K 6 ∧ z ≠ K 4) := fun z => by simp
  refine ⟨fun a ha => ?_, ⟨(L _).mpr ⟨?_, ?_, ?_⟩, (L _).mpr ⟨?_, ?_, ?_⟩⟩, fun j hj => ⟨(L _).mpr ⟨?_, ?_, ?_⟩, (L _).mpr ⟨?_, ?_, ?_⟩⟩⟩
  · have : a = K 7 ∨ a = K 6 ∨ a = K 4 := by simpa using ha
    rcases this with rfl | rfl | rfl
    · rw [a7]; exact ⟨by decide, by decide⟩
    · rw [a6]; exact ⟨by decide, by decide⟩
    · rw [a4]; exact ⟨by decide, by decide⟩
  · exact tt (by rw [a8, a7]; decide)
  · exact tt (by rw [a8, a6]; decide)
  · exact tt (by rw [a8, a4]; decide)
  · exact e1.symm
  · exact tt (by rw [a9, a6]; decide)
  · exact tt (by rw [a9, a4]; decide)
  · exact tt (by rw [(d j hj).1, a7]; decide)
  · exact tt (by rw [(d j hj).1, a6]; decide)
  · exact tt (by rw [(d j hj).1, a4]; decide)
  · exact (e2 j hj).1
  · exact tt (by rw [(d j hj).2.1, a6]; decide)
  · exact tt (by rw [(d j hj).2.1, a4]; decide)
theorem imgA_ok {G : Nat → Nat} {τ : Nat → Nat} {f : hM} {K sh qs : Nat → Nat} (X : XK G τ f K sh qs) : (∀ a ∈ [K 9, K 8, K 4], τ a ≠ 1 ∧ τ a ≠ 2) ∧ (K 6 ∉ [K 9, K 8, K 4] ∧ K 7 ∉ [K 9, K 8, K 4]) ∧ ∀ j : Nat, j < 12 → sh j ∉ [K 9, K 8, K 4] ∧ qs j ∉ [K 9, K 8, K 4] := by
  obtain ⟨⟨a0, a1, a2, a3, a4, a5, a6, a7, a8, a9, a10, a11⟩, -, -, d, ⟨e1, e2⟩, e3⟩ := X
  have tt : ∀ {x y : Nat}, τ x ≠ τ y → x ≠ y := fun h z => h (by rw [z])
  have L : ∀ z : Nat, z ∉ [K 9, K 8, K 4] ↔ (z ≠ K 9 ∧ z ≠ K 8 ∧ z ≠ K 4) := fun z => by simp
  refine ⟨fun a ha => ?_, ⟨(L _).mpr ⟨?_, ?_, ?_⟩, (L _).mpr ⟨?_, ?_, ?_⟩⟩, fun j hj => ⟨(L _).mpr ⟨?_, ?_, ?_⟩, (L _).mpr ⟨?_, ?_, ?_⟩⟩⟩
  · have : a = K 9 ∨ a = K 8 ∨ a = K 4 := by simpa using ha
    rcases this with rfl | rfl | rfl
    · rw [a9]; exact ⟨by decide, by decide⟩
    · rw [a8]; exact ⟨by decide, by decide⟩
    · rw [a4]; exact ⟨by decide, by decide⟩
  · exact tt (by rw [a6, a9]; decide)
  · exact tt (by rw [a6, a8]; decide)
  · exact tt (by rw [a6, a4]; decide)
  · exact e1
  · exact tt (by rw [a7, a8]; decide)
  · exact tt (by rw [a7, a4]; decide)
  · exact tt (by rw [(d j hj).1, a9]; decide)
  · exact tt (by rw [(d j hj).1, a8]; decide)
  · exact tt (by rw [(d j hj).1, a4]; decide)
  · exact (e2 j hj).2
  · exact tt (by rw [(d j hj).2.1, a8]; decide)
  · exact tt (by rw [(d j hj).2.1, a4]; decide)
abbrev fed (ln : Int) (B : Nat → Int) (u1 u2 u3 u4 u5 : Int32) : Nat → Int := (a4 (a4 (a4 (a4 (a4 (ln, B) u1) u2) u3) u4) u5).2
def cvl (u ln ac s : Int) : Int := if u = 0 then ln else if u = 1 then ac else if u = 2 then s else -1
set_option maxRecDepth 20000 in
theorem lx_4 (l : Launch) (D : va_G) (G : Nat → Nat) (b0 : Nat) {τ : Nat → Nat} {f : hM} {K sh qs M : Nat → Nat} {o : Nat} (h : LI G τ f K sh qs M o) (u1 : Int32) : mI l yX10_drop cX10_drop 2 (.int) rm_s_X10_dropX D G b0 f [.ref (K 0), .int u1] (fun _ f1 => ∃ τ1, LIP G τ1 f1 K sh qs M o (fun ln ac hi B rb rk ri => RQ G τ1 f1 K M ((if ¬ (0 ≤ u1.toInt ∧ u1.toInt < (rb 80).toInt) then 0 else -1)) ∧ ∃ l1 ac1 : Int, ((0 ≤ u1.toInt ∧ u1.toInt < (rb 80).toInt) → ((ac = 12 → ac1 = 12) ∧ (ac ≠ 12 → ac1 = ac + 1)) ∧ l1 = ln ∧ XD G τ1 f1 K sh qs l1 ac1 hi B (dr rb u1.toInt) (kp rk rb ac) ri) ∧ (¬ (0 ≤ u1.toInt ∧ u1.toInt < (rb 80).toInt) → XD G τ1 f1 K sh qs ln ac hi B rb rk ri))) := by
  obtain ⟨t, X, g, m, ng, ho, ln, ac, hi, B, rb, rk, ri, xd, md, rQ⟩ := id h
  obtain ⟨⟨a0, a1, a2, a3, a4, a5, a6, a7, a8, a9, a10, a11⟩, ⟨b0_, b1_, b2_, b3_, b4_, b5_, b6_, b7_, b8_, b9_, b10_⟩, ⟨rf, c1, c2⟩, dd, ⟨e1, e2⟩, e3⟩ := id X
  obtain ⟨⟨p0, p1, p2, p3, p4, p5⟩, q0_, q1_, q2_, q3_, q4_⟩ := id m
  obtain ⟨ln', ac', hi', nx, rt, ⟨i1, i2, i3, i4⟩, ⟨f1_, f2_, f3_⟩, ⟨k1, k2, k3, k4, k5⟩, hB, now, kept, old⟩ := id xd
  subst f1_; subst f2_; subst f3_
  have mk5 : atp f (M 2) (eqc (.inl (G 1, 81, .inl rb))) := by
    obtain ⟨_, _, _, _, -, -, -, ⟨-, q, -, -⟩, -⟩ := md
    exact q
  obtain ⟨sz, ρ, z0, z1, z2, z3, z4, z5⟩ := id now
  have j12 : nx.toInt.toNat < 12 := by
    have := i4.1
    have := i4.2
    omega
  obtain ⟨d1, d2, d3⟩ := dd _ j12
  obtain ⟨sa, hsa, ksa⟩ := t.fint d1 (by decide) wf_18 1 rfl
  obtain ⟨ra, kra⟩ := ro_get t d2
  have hb := t.bk9 p2 mk5
  obtain ⟨A1, A2, A3⟩ := actA_ok X j12
  obtain ⟨rA, rq, rr, r1_, r2_, r3_⟩ := id rQ
  refine (s_X10_dropX l D G b0 τ f t (K 0) a0 u1 (iv_any _) (sh nx.toInt.toNat) d1 (K 4) a4 b1_ (K 5) a5 b3_ ac' i2 k2 nx i4 k4 (K 6) a6 b6_ (K 10) a10 b8_ (K 7) a7 b9_ sz z0 z1 (qs nx.toInt.toNat) d2 d3 sa hsa ksa ρ z2 rf c1 ra kra rq r1_ (c2 _ j12) (e2 _ j12).1.symm rb hb.1 z4).post (fun r f1 hp => ?_)
  obtain ⟨τ1, x1, -, t1, r1, yr, ⟨nx1, y1, y2, y3, y4⟩, ⟨ac1, w1, w2, w3, w4⟩, ⟨szn, v1, v2, v3, v4⟩, ⟨sza, s1, -, s3, s4⟩, ⟨ra1, g1, g2⟩, ⟨rn1, n1, n2⟩, ⟨rq1, s5_, s6_⟩, fx⟩ := hp
  have fx := fx.wk (A := actA K (qs nx.toInt.toNat) (sh nx.toInt.toNat)) (fun a ha => List.mem_append_left [K 1, K 3] ha)
  have key := XD.acted (ln := sz) (S := [4, 12, 15, 18, 50, 12001, 12006, 15002, 18002]) (A := actA K (qs nx.toInt.toNat) (sh nx.toInt.toNat)) (ok := ((0 ≤ u1.toInt ∧ u1.toInt < sz.toInt))) (szN := sz.toInt - 1) (rbN := dr rb u1.toInt) (B := B) X i2 i3 i4 k3 k5 z1 z2 now kept old ksa kra x1 r1 fx (by decide) (by decide) A1 A2 A3 (k1.fk r1 a1 (by decide) (by decide)) i1 hB y1 y2 ⟨y3, y4⟩ w1 w2 ⟨w3, w4⟩ v1 v2 ⟨v3, v4⟩ s1 ⟨s3, s4⟩ g1 g2 n1 n2.2 (fun hok => OKr.drop z4 z5 z0.2 hok z3 fx x1 A1 (n2.1 hok))
  rw [z3] at key w3 s6_
  exact ⟨τ1, LB.x ⟨t, X, g, m, ng, ho⟩ t1 r1 x1 (by decide) (by decide) (by decide) (by decide), ln'.toInt, ac'.toInt, hi'.toInt, B, rb, rk, ri, md.fr m r1 (by decide), RQ.x rA r2_ r3_ r1 x1 (by decide) s5_ s6_, ln'.toInt, ac1.toInt, fun hok => ⟨w3 hok, rfl, key.1 hok⟩, fun hok => key.2 hok⟩
set_option maxRecDepth 20000 in
theorem lm_4 (l : Launch) (D : va_G) (G : Nat → Nat) (b0 : Nat) {τ : Nat → Nat} {f : hM} {K sh qs M : Nat → Nat} {o : Nat} (u1 : Int32) (h : LIP G τ f K sh qs M o (fun ln ac hi B rb rk ri => RQ G τ f K M ((if ¬ (0 ≤ u1.toInt ∧ u1.toInt < (rb 80).toInt) then 0 else -1)) ∧ ∃ l1 ac1 : Int, ((0 ≤ u1.toInt ∧ u1.toInt < (rb 80).toInt) → ((ac = 12 → ac1 = 12) ∧ (ac ≠ 12 → ac1 = ac + 1)) ∧ l1 = ln ∧ XD G τ f K sh qs l1 ac1 hi B (dr rb u1.toInt) (kp rk rb ac) ri) ∧ (¬ (0 ≤ u1.toInt ∧ u1.toInt < (rb 80).toInt) → XD G τ f K sh qs ln ac hi B rb rk ri))) : mI l yX11_drop cX11_drop 3 (.int) rm_s_X11_dropX D G b0 f [.ref (M 0), .int u1] (fun _ f1 => ∃ τ1, LI G τ1 f1 K sh qs M o) := by
  obtain ⟨⟨t, X, g, m, ng, ho⟩, ln, ac, hi, B, rb, rk, ri, md, rQ, l1, ac1, P1, P2⟩ := h
  obtain ⟨⟨p0, p1, p2, p3, p4, p5⟩, q0_, q1_, q2_, q3_, q4_⟩ := id m
  obtain ⟨ln', ac', hi', rt, ⟨i1, i2, i3⟩, ⟨f1_, f2_, f3_⟩, ⟨k1, k2, k3⟩, ⟨k4, k5, k6, k7⟩, mB⟩ := id md
  subst f1_; subst f2_; subst f3_
  have hb := t.bk9 p2 k5
  obtain ⟨rA, rq, rr, r1_, r2_, r3_⟩ := id rQ
  obtain ⟨rd, hrd⟩ := t.ia p5 (by decide) wf_62
  refine (s_X11_dropX l D G b0 τ f t (M 0) p0 u1 (iv_any _) ac' i2 k2 (M 2) p2 q1_ (M 4) p4 q3_ (M 6) rA.2.1 rA.2.2.2 rb k5 rk k7 rr r2_).post (fun r f1 hp => ?_)
  obtain ⟨-, t1, r1, yr, ⟨ac2, w1, w2, w3, w4⟩, ⟨rb1, b1, b2⟩, ⟨rk1, c1, c2⟩, ⟨rr1, d1, d2⟩⟩ := hp
  have rQ1 : RQ G τ f1 K M (-1) := RQ.m rA r1_ r3_ r1 (by decide) d1 d2
  have LB1 : LB G τ f1 K sh qs M o := ⟨t1, X.fr r1 (Ex.rf τ) (by decide), GJ.fr g r1 X.1.2.2.2.2.2.2.2.2.2.2.2 (by decide), m.fr r1 (Ex.rf τ) (by decide), ng.fr r1 p0 (by decide), ho⟩
  by_cases hok : (0 ≤ u1.toInt ∧ u1.toInt < (rb 80).toInt)
  · obtain ⟨Pa, Pl, Px⟩ := P1 hok
    have w5 := w3 hok
    have e1 : ac1 = ac2.toInt := by
      by_cases c : ac'.toInt = 12
      · rw [Pa.1 c, w5.1 c]
      · rw [Pa.2 c, w5.2 c]
    subst e1
    subst Pl
    exact ⟨τ, LI.of LB1 ((Px.fr X r1 (Ex.rf τ) (by decide)).rows (fun k hk => by rw [b2 k hk, if_pos hok]) (fun k hk => by rw [c2 k hk, if_pos hok]) (fun _ _ => rfl)) ⟨ln', ac2, hi', rt, ⟨i1, w2, i3⟩, ⟨rfl, rfl, rfl⟩, ⟨(k1.fk r1 p0 (by decide) (by decide)), w1, k3.fk r1 p0 (by decide) (by decide)⟩, ⟨k4.fr r1 p1 (by decide), b1, k6.fr r1 p3 (by decide), c1⟩, mB⟩ rQ1⟩
  · exact ⟨τ, LI.of LB1 (((P2 hok).fr X r1 (Ex.rf τ) (by decide)).rows (fun k hk => by rw [b2 k hk, if_neg hok]) (fun k hk => by rw [c2 k hk, if_neg hok]) (fun _ _ => rfl)) ⟨ln', ac2, hi', rt, ⟨i1, w2, i3⟩, ⟨rfl, w4 hok, rfl⟩, ⟨(k1.fk r1 p0 (by decide) (by decide)), w1, k3.fk r1 p0 (by decide) (by decide)⟩, ⟨k4.fr r1 p1 (by decide), b1, k6.fr r1 p3 (by decide), c1⟩, mB⟩ rQ1⟩
set_option maxRecDepth 20000 in
theorem lx_5 (l : Launch) (D : va_G) (G : Nat → Nat) (b0 : Nat) {τ : Nat → Nat} {f : hM} {K sh qs M : Nat → Nat} {o : Nat} (h : LI G τ f K sh qs M o) (u1 : Int32) : mI l yX10_mirror cX10_mirror 3 (.int) rm_s_X10_mirrorX D G b0 f [.ref (K 0), .int u1] (fun _ f1 => ∃ τ1, LIP G τ1 f1 K sh qs M o (fun ln ac hi B rb rk ri => RQ G τ1 f1 K M ((if ¬ (0 ≤ u1.toInt ∧ u1.toInt < (rb 80).toInt) then 0 else (if ¬ ((rb 80).toInt ≤ 7) then 2 else -1))) ∧ ∃ l1 ac1 : Int, (((0 ≤ u1.toInt ∧ u1.toInt < (rb 80).toInt) ∧ (rb 80).toInt ≤ 7) → ((ac = 12 → ac1 = 12) ∧ (ac ≠ 12 → ac1 = ac + 1)) ∧ l1 = ln ∧ XD G τ1 f1 K sh qs l1 ac1 hi B (cm rb (mi rb u1.toInt)) (kp rk rb ac) ri) ∧ (¬ ((0 ≤ u1.toInt ∧ u1.toInt < (rb 80).toInt) ∧ (rb 80).toInt ≤ 7) → XD G τ1 f1 K sh qs ln ac hi B rb rk ri))) := by
  obtain ⟨t, X, g, m, ng, ho, ln, ac, hi, B, rb, rk, ri, xd, md, rQ⟩ := id h
  obtain ⟨⟨a0, a1, a2, a3, a4, a5, a6, a7, a8, a9, a10, a11⟩, ⟨b0_, b1_, b2_, b3_, b4_, b5_, b6_, b7_, b8_, b9_, b10_⟩, ⟨rf, c1, c2⟩, dd, ⟨e1, e2⟩, e3⟩ := id X
  obtain ⟨⟨p0, p1, p2, p3, p4, p5⟩, q0_, q1_, q2_, q3_, q4_⟩ := id m
  obtain ⟨ln', ac', hi', nx, rt, ⟨i1, i2, i3, i4⟩, ⟨f1_, f2_, f3_⟩, ⟨k1, k2, k3, k4, k5⟩, hB, now, kept, old⟩ := id xd
  subst f1_; subst f2_; subst f3_
  have mk5 : atp f (M 2) (eqc (.inl (G 1, 81, .inl rb))) := by
    obtain ⟨_, _, _, _, -, -, -, ⟨-, q, -, -⟩, -⟩ := md
    exact q
  obtain ⟨sz, ρ, z0, z1, z2, z3, z4, z5⟩ := id now
  have j12 : nx.toInt.toNat < 12 := by
    have := i4.1
    have := i4.2
    omega
  obtain ⟨d1, d2, d3⟩ := dd _ j12
  obtain ⟨sa, hsa, ksa⟩ := t.fint d1 (by decide) wf_18 1 rfl
  obtain ⟨ra, kra⟩ := ro_get t d2
  have hb := t.bk9 p2 mk5
  obtain ⟨A1, A2, A3⟩ := actA_ok X j12
  obtain ⟨rA, rq, rr, r1_, r2_, r3_⟩ := id rQ
  refine (s_X10_mirrorX l D G b0 τ f t (K 0) a0 u1 (iv_any _) (sh nx.toInt.toNat) d1 (K 4) a4 b1_ (K 5) a5 b3_ ac' i2 k2 nx i4 k4 (K 6) a6 b6_ (K 10) a10 b8_ (K 7) a7 b9_ sz z0 z1 (qs nx.toInt.toNat) d2 d3 sa hsa ksa ρ z2 rf c1 ra kra rq r1_ (c2 _ j12) (e2 _ j12).1.symm rb hb.1 z4).post (fun r f1 hp => ?_)
  obtain ⟨τ1, x1, -, t1, r1, yr, ⟨nx1, y1, y2, y3, y4⟩, ⟨ac1, w1, w2, w3, w4⟩, ⟨szn, v1, v2, v3, v4⟩, ⟨sza, s1, -, s3, s4⟩, ⟨ra1, g1, g2⟩, ⟨rn1, n1, n2⟩, ⟨rq1, s5_, s6_⟩, fx⟩ := hp
  have fx := fx.wk (A := actA K (qs nx.toInt.toNat) (sh nx.toInt.toNat)) (fun a ha => List.mem_append_left [K 1, K 3] ha)
  have key := XD.acted (ln := sz) (S := [0, 4, 12, 15, 18, 50, 54, 12001, 12006, 15002, 18002]) (A := actA K (qs nx.toInt.toNat) (sh nx.toInt.toNat)) (ok := (((0 ≤ u1.toInt ∧ u1.toInt < sz.toInt) ∧ sz.toInt ≤ 7))) (szN := sz.toInt + 1) (rbN := cm rb (mi rb u1.toInt)) (B := B) X i2 i3 i4 k3 k5 z1 z2 now kept old ksa kra x1 r1 fx (by decide) (by decide) A1 A2 A3 (k1.fk r1 a1 (by decide) (by decide)) i1 hB y1 y2 ⟨y3, y4⟩ w1 w2 ⟨w3, w4⟩ v1 v2 ⟨v3, v4⟩ s1 ⟨s3, s4⟩ g1 g2 n1 n2.2 (fun hok => OKr.add z4 z5 z0.1 hok.2 z3 fx x1 A1 (n2.1 hok) (pw_mi z5 hok.1))
  rw [z3] at key w3 s6_
  exact ⟨τ1, LB.x ⟨t, X, g, m, ng, ho⟩ t1 r1 x1 (by decide) (by decide) (by decide) (by decide), ln'.toInt, ac'.toInt, hi'.toInt, B, rb, rk, ri, md.fr m r1 (by decide), RQ.x rA r2_ r3_ r1 x1 (by decide) s5_ s6_, ln'.toInt, ac1.toInt, fun hok => ⟨w3 hok, rfl, key.1 hok⟩, fun hok => key.2 hok⟩
set_option maxRecDepth 20000 in
theorem lm_5 (l : Launch) (D : va_G) (G : Nat → Nat) (b0 : Nat) {τ : Nat → Nat} {f : hM} {K sh qs M : Nat → Nat} {o : Nat} (u1 : Int32) (h : LIP G τ f K sh qs M o (fun ln ac hi B rb rk ri => RQ G τ f K M ((if ¬ (0 ≤ u1.toInt ∧ u1.toInt < (rb 80).toInt) then 0 else (if ¬ ((rb 80).toInt ≤ 7) then 2 else -1))) ∧ ∃ l1 ac1 : Int, (((0 ≤ u1.toInt ∧ u1.toInt < (rb 80).toInt) ∧ (rb 80).toInt ≤ 7) → ((ac = 12 → ac1 = 12) ∧ (ac ≠ 12 → ac1 = ac + 1)) ∧ l1 = ln ∧ XD G τ f K sh qs l1 ac1 hi B (cm rb (mi rb u1.toInt)) (kp rk rb ac) ri) ∧ (¬ ((0 ≤ u1.toInt ∧ u1.toInt < (rb 80).toInt) ∧ (rb 80).toInt ≤ 7) → XD G τ f K sh qs ln ac hi B rb rk ri))) : mI l yX11_mirror cX11_mirror 3 (.int) rm_s_X11_mirrorX D G b0 f [.ref (M 0), .int u1] (fun _ f1 => ∃ τ1, LI G τ1 f1 K sh qs M o) := by
  obtain ⟨⟨t, X, g, m, ng, ho⟩, ln, ac, hi, B, rb, rk, ri, md, rQ, l1, ac1, P1, P2⟩ := h
  obtain ⟨⟨p0, p1, p2, p3, p4, p5⟩, q0_, q1_, q2_, q3_, q4_⟩ := id m
  obtain ⟨ln', ac', hi', rt, ⟨i1, i2, i3⟩, ⟨f1_, f2_, f3_⟩, ⟨k1, k2, k3⟩, ⟨k4, k5, k6, k7⟩, mB⟩ := id md
  subst f1_; subst f2_; subst f3_
  have hb := t.bk9 p2 k5
  obtain ⟨rA, rq, rr, r1_, r2_, r3_⟩ := id rQ
  obtain ⟨rd, hrd⟩ := t.ia p5 (by decide) wf_62
  refine (s_X11_mirrorX l D G b0 τ f t (M 0) p0 u1 (iv_any _) ac' i2 k2 (M 2) p2 q1_ (M 4) p4 q3_ (M 5) p5 q4_ (M 6) rA.2.1 rA.2.2.2 rb k5 rk k7 rd hrd rr r2_ hb.1).post (fun r f1 hp => ?_)
  obtain ⟨-, t1, r1, yr, ⟨ac2, w1, w2, w3, w4⟩, ⟨rb1, b1, b2⟩, ⟨rk1, c1, c2⟩, ⟨rr1, d1, d2⟩⟩ := hp
  have rQ1 : RQ G τ f1 K M (-1) := RQ.m rA r1_ r3_ r1 (by decide) d1 d2
  have LB1 : LB G τ f1 K sh qs M o := ⟨t1, X.fr r1 (Ex.rf τ) (by decide), GJ.fr g r1 X.1.2.2.2.2.2.2.2.2.2.2.2 (by decide), m.fr r1 (Ex.rf τ) (by decide), ng.fr r1 p0 (by decide), ho⟩
  by_cases hok : ((0 ≤ u1.toInt ∧ u1.toInt < (rb 80).toInt) ∧ (rb 80).toInt ≤ 7)
  · obtain ⟨Pa, Pl, Px⟩ := P1 hok
    have w5 := w3 hok
    have e1 : ac1 = ac2.toInt := by
      by_cases c : ac'.toInt = 12
      · rw [Pa.1 c, w5.1 c]
      · rw [Pa.2 c, w5.2 c]
    subst e1
    subst Pl
    exact ⟨τ, LI.of LB1 ((Px.fr X r1 (Ex.rf τ) (by decide)).rows (fun k hk => by rw [b2 k hk, if_pos hok]) (fun k hk => by rw [c2 k hk, if_pos hok]) (fun _ _ => rfl)) ⟨ln', ac2, hi', rt, ⟨i1, w2, i3⟩, ⟨rfl, rfl, rfl⟩, ⟨(k1.fk r1 p0 (by decide) (by decide)), w1, k3.fk r1 p0 (by decide) (by decide)⟩, ⟨k4.fr r1 p1 (by decide), b1, k6.fr r1 p3 (by decide), c1⟩, mB⟩ rQ1⟩
  · exact ⟨τ, LI.of LB1 (((P2 hok).fr X r1 (Ex.rf τ) (by decide)).rows (fun k hk => by rw [b2 k hk, if_neg hok]) (fun k hk => by rw [c2 k hk, if_neg hok]) (fun _ _ => rfl)) ⟨ln', ac2, hi', rt, ⟨i1, w2, i3⟩, ⟨rfl, w4 hok, rfl⟩, ⟨(k1.fk r1 p0 (by decide) (by decide)), w1, k3.fk r1 p0 (by decide) (by decide)⟩, ⟨k4.fr r1 p1 (by decide), b1, k6.fr r1 p3 (by decide), c1⟩, mB⟩ rQ1⟩
set_option maxRecDepth 20000 in
theorem lx_6 (l : Launch) (D : va_G) (G : Nat → Nat) (b0 : Nat) {τ : Nat → Nat} {f : hM} {K sh qs M : Nat → Nat} {o : Nat} (h : LI G τ f K sh qs M o) (u1 : Int32) : mI l yX10_turn cX10_turn 3 (.int) rm_s_X10_turnX D G b0 f [.ref (K 0), .int u1] (fun _ f1 => ∃ τ1, LIP G τ1 f1 K sh qs M o (fun ln ac hi B rb rk ri => RQ G τ1 f1 K M ((if ¬ (0 ≤ u1.toInt ∧ u1.toInt < (rb 80).toInt) then 0 else (if ¬ ((rb 80).toInt ≤ 7) then 2 else -1))) ∧ ∃ l1 ac1 : Int, (((0 ≤ u1.toInt ∧ u1.toInt < (rb 80).toInt) ∧ (rb 80).toInt ≤ 7) → ((ac = 12 → ac1 = 12) ∧ (ac ≠ 12 → ac1 = ac + 1)) ∧ l1 = ln ∧ XD G τ1 f1 K sh qs l1 ac1 hi B (cm rb (tr rb u1.toInt)) (kp rk rb ac) ri) ∧ (¬ ((0 ≤ u1.toInt ∧ u1.toInt < (rb 80).toInt) ∧ (rb 80).toInt ≤ 7) → XD G τ1 f1 K sh qs ln ac hi B rb rk ri))) := by
  obtain ⟨t, X, g, m, ng, ho, ln, ac, hi, B, rb, rk, ri, xd, md, rQ⟩ := id h
  obtain ⟨⟨a0, a1, a2, a3, a4, a5, a6, a7, a8, a9, a10, a11⟩, ⟨b0_, b1_, b2_, b3_, b4_, b5_, b6_, b7_, b8_, b9_, b10_⟩, ⟨rf, c1, c2⟩, dd, ⟨e1, e2⟩, e3⟩ := id X
  obtain ⟨⟨p0, p1, p2, p3, p4, p5⟩, q0_, q1_, q2_, q3_, q4_⟩ := id m
  obtain ⟨ln', ac', hi', nx, rt, ⟨i1, i2, i3, i4⟩, ⟨f1_, f2_, f3_⟩, ⟨k1, k2, k3, k4, k5⟩, hB, now, kept, old⟩ := id xd
  subst f1_; subst f2_; subst f3_
  have mk5 : atp f (M 2) (eqc (.inl (G 1, 81, .inl rb))) := by
    obtain ⟨_, _, _, _, -, -, -, ⟨-, q, -, -⟩, -⟩ := md
    exact q
  obtain ⟨sz, ρ, z0, z1, z2, z3, z4, z5⟩ := id now
  have j12 : nx.toInt.toNat < 12 := by
    have := i4.1
    have := i4.2
    omega
  obtain ⟨d1, d2, d3⟩ := dd _ j12
  obtain ⟨sa, hsa, ksa⟩ := t.fint d1 (by decide) wf_18 1 rfl
  obtain ⟨ra, kra⟩ := ro_get t d2
  have hb := t.bk9 p2 mk5
  obtain ⟨A1, A2, A3⟩ := actA_ok X j12
  obtain ⟨rA, rq, rr, r1_, r2_, r3_⟩ := id rQ
  refine (s_X10_turnX l D G b0 τ f t (K 0) a0 u1 (iv_any _) (sh nx.toInt.toNat) d1 (K 4) a4 b1_ (K 5) a5 b3_ ac' i2 k2 nx i4 k4 (K 6) a6 b6_ (K 10) a10 b8_ (K 7) a7 b9_ sz z0 z1 (qs nx.toInt.toNat) d2 d3 sa hsa ksa ρ z2 rf c1 ra kra rq r1_ (c2 _ j12) (e2 _ j12).1.symm rb hb.1 z4).post (fun r f1 hp => ?_)
  obtain ⟨τ1, x1, -, t1, r1, yr, ⟨nx1, y1, y2, y3, y4⟩, ⟨ac1, w1, w2, w3, w4⟩, ⟨szn, v1, v2, v3, v4⟩, ⟨sza, s1, -, s3, s4⟩, ⟨ra1, g1, g2⟩, ⟨rn1, n1, n2⟩, ⟨rq1, s5_, s6_⟩, fx⟩ := hp
  have fx := fx.wk (A := actA K (qs nx.toInt.toNat) (sh nx.toInt.toNat)) (fun a ha => List.mem_append_left [K 1, K 3] ha)
  have key := XD.acted (ln := sz) (S := [0, 4, 12, 15, 18, 50, 54, 12001, 12006, 15002, 18002]) (A := actA K (qs nx.toInt.toNat) (sh nx.toInt.toNat)) (ok := (((0 ≤ u1.toInt ∧ u1.toInt < sz.toInt) ∧ sz.toInt ≤ 7))) (szN := sz.toInt + 1) (rbN := cm rb (tr rb u1.toInt)) (B := B) X i2 i3 i4 k3 k5 z1 z2 now kept old ksa kra x1 r1 fx (by decide) (by decide) A1 A2 A3 (k1.fk r1 a1 (by decide) (by decide)) i1 hB y1 y2 ⟨y3, y4⟩ w1 w2 ⟨w3, w4⟩ v1 v2 ⟨v3, v4⟩ s1 ⟨s3, s4⟩ g1 g2 n1 n2.2 (fun hok => OKr.add z4 z5 z0.1 hok.2 z3 fx x1 A1 (n2.1 hok) (pw_tr z5 hok.1))
  rw [z3] at key w3 s6_
  exact ⟨τ1, LB.x ⟨t, X, g, m, ng, ho⟩ t1 r1 x1 (by decide) (by decide) (by decide) (by decide), ln'.toInt, ac'.toInt, hi'.toInt, B, rb, rk, ri, md.fr m r1 (by decide), RQ.x rA r2_ r3_ r1 x1 (by decide) s5_ s6_, ln'.toInt, ac1.toInt, fun hok => ⟨w3 hok, rfl, key.1 hok⟩, fun hok => key.2 hok⟩
set_option maxRecDepth 20000 in
theorem lm_6 (l : Launch) (D : va_G) (G : Nat → Nat) (b0 : Nat) {τ : Nat → Nat} {f : hM} {K sh qs M : Nat → Nat} {o : Nat} (u1 : Int32) (h : LIP G τ f K sh qs M o (fun ln ac hi B rb rk ri => RQ G τ f K M ((if ¬ (0 ≤ u1.toInt ∧ u1.toInt < (rb 80).toInt) then 0 else (if ¬ ((rb 80).toInt ≤ 7) then 2 else -1))) ∧ ∃ l1 ac1 : Int, (((0 ≤ u1.toInt ∧ u1.toInt < (rb 80).toInt) ∧ (rb 80).toInt ≤ 7) → ((ac = 12 → ac1 = 12) ∧ (ac ≠ 12 → ac1 = ac + 1)) ∧ l1 = ln ∧ XD G τ f K sh qs l1 ac1 hi B (cm rb (tr rb u1.toInt)) (kp rk rb ac) ri) ∧ (¬ ((0 ≤ u1.toInt ∧ u1.toInt < (rb 80).toInt) ∧ (rb 80).toInt ≤ 7) → XD G τ f K sh qs ln ac hi B rb rk ri))) : mI l yX11_turn cX11_turn 3 (.int) rm_s_X11_turnX D G b0 f [.ref (M 0), .int u1] (fun _ f1 => ∃ τ1, LI G τ1 f1 K sh qs M o) := by
  obtain ⟨⟨t, X, g, m, ng, ho⟩, ln, ac, hi, B, rb, rk, ri, md, rQ, l1, ac1, P1, P2⟩ := h
  obtain ⟨⟨p0, p1, p2, p3, p4, p5⟩, q0_, q1_, q2_, q3_, q4_⟩ := id m
  obtain ⟨ln', ac', hi', rt, ⟨i1, i2, i3⟩, ⟨f1_, f2_, f3_⟩, ⟨k1, k2, k3⟩, ⟨k4, k5, k6, k7⟩, mB⟩ := id md
  subst f1_; subst f2_; subst f3_
  have hb := t.bk9 p2 k5
  obtain ⟨rA, rq, rr, r1_, r2_, r3_⟩ := id rQ
  obtain ⟨rd, hrd⟩ := t.ia p5 (by decide) wf_62
  refine (s_X11_turnX l D G b0 τ f t (M 0) p0 u1 (iv_any _) ac' i2 k2 (M 2) p2 q1_ (M 4) p4 q3_ (M 5) p5 q4_ (M 6) rA.2.1 rA.2.2.2 rb k5 rk k7 rd hrd rr r2_ hb.1).post (fun r f1 hp => ?_)
  obtain ⟨-, t1, r1, yr, ⟨ac2, w1, w2, w3, w4⟩, ⟨rb1, b1, b2⟩, ⟨rk1, c1, c2⟩, ⟨rr1, d1, d2⟩⟩ := hp
  have rQ1 : RQ G τ f1 K M (-1) := RQ.m rA r1_ r3_ r1 (by decide) d1 d2
  have LB1 : LB G τ f1 K sh qs M o := ⟨t1, X.fr r1 (Ex.rf τ) (by decide), GJ.fr g r1 X.1.2.2.2.2.2.2.2.2.2.2.2 (by decide), m.fr r1 (Ex.rf τ) (by decide), ng.fr r1 p0 (by decide), ho⟩
  by_cases hok : ((0 ≤ u1.toInt ∧ u1.toInt < (rb 80).toInt) ∧ (rb 80).toInt ≤ 7)
  · obtain ⟨Pa, Pl, Px⟩ := P1 hok
    have w5 := w3 hok
    have e1 : ac1 = ac2.toInt := by
      by_cases c : ac'.toInt = 12
      · rw [Pa.1 c, w5.1 c]
      · rw [Pa.2 c, w5.2 c]
    subst e1
    subst Pl
    exact ⟨τ, LI.of LB1 ((Px.fr X r1 (Ex.rf τ) (by decide)).rows (fun k hk => by rw [b2 k hk, if_pos hok]) (fun k hk => by rw [c2 k hk, if_pos hok]) (fun _ _ => rfl)) ⟨ln', ac2, hi', rt, ⟨i1, w2, i3⟩, ⟨rfl, rfl, rfl⟩, ⟨(k1.fk r1 p0 (by decide) (by decide)), w1, k3.fk r1 p0 (by decide) (by decide)⟩, ⟨k4.fr r1 p1 (by decide), b1, k6.fr r1 p3 (by decide), c1⟩, mB⟩ rQ1⟩
  · exact ⟨τ, LI.of LB1 (((P2 hok).fr X r1 (Ex.rf τ) (by decide)).rows (fun k hk => by rw [b2 k hk, if_neg hok]) (fun k hk => by rw [c2 k hk, if_neg hok]) (fun _ _ => rfl)) ⟨ln', ac2, hi', rt, ⟨i1, w2, i3⟩, ⟨rfl, w4 hok, rfl⟩, ⟨(k1.fk r1 p0 (by decide) (by decide)), w1, k3.fk r1 p0 (by decide) (by decide)⟩, ⟨k4.fr r1 p1 (by decide), b1, k6.fr r1 p3 (by decide), c1⟩, mB⟩ rQ1⟩
set_option maxRecDepth 20000 in
theorem lx_7 (l : Launch) (D : va_G) (G : Nat → Nat) (b0 : Nat) {τ : Nat → Nat} {f : hM} {K sh qs M : Nat → Nat} {o : Nat} (h : LI G τ f K sh qs M o) (u1 : Int32) (u2 : Int32) : mI l yX10_join cX10_join 7 (.int) rm_s_X10_joinX D G b0 f [.ref (K 0), .int u1, .int u2] (fun _ f1 => ∃ τ1, LIP G τ1 f1 K sh qs M o (fun ln ac hi B rb rk ri => RQ G τ1 f1 K M ((if ¬ ((0 ≤ u1.toInt ∧ u1.toInt < (rb 80).toInt) ∧ (0 ≤ u2.toInt ∧ u2.toInt < (rb 80).toInt)) then 0 else (if ¬ (∀ s : Nat, s < 8 → (rb (10 * u1.toInt + s).toNat).toInt + (rb (10 * u2.toInt + s).toNat).toInt ≤ 9) then 1 else (if ¬ ((rb 80).toInt ≤ 7) then 2 else -1)))) ∧ ∃ l1 ac1 : Int, (((0 ≤ u1.toInt ∧ u1.toInt < (rb 80).toInt) ∧ (0 ≤ u2.toInt ∧ u2.toInt < (rb 80).toInt) ∧ (∀ s : Nat, s < 8 → (rb (10 * u1.toInt + s).toNat).toInt + (rb (10 * u2.toInt + s).toNat).toInt ≤ 9) ∧ (rb 80).toInt ≤ 7) → ((ac = 12 → ac1 = 12) ∧ (ac ≠ 12 → ac1 = ac + 1)) ∧ l1 = ln ∧ XD G τ1 f1 K sh qs l1 ac1 hi B (cm rb (jo rb u1.toInt u2.toInt)) (kp rk rb ac) ri) ∧ (¬ ((0 ≤ u1.toInt ∧ u1.toInt < (rb 80).toInt) ∧ (0 ≤ u2.toInt ∧ u2.toInt < (rb 80).toInt) ∧ (∀ s : Nat, s < 8 → (rb (10 * u1.toInt + s).toNat).toInt + (rb (10 * u2.toInt + s).toNat).toInt ≤ 9) ∧ (rb 80).toInt ≤ 7) → XD G τ1 f1 K sh qs ln ac hi B rb rk ri))) := by
  obtain ⟨t, X, g, m, ng, ho, ln, ac, hi, B, rb, rk, ri, xd, md, rQ⟩ := id h
  obtain ⟨⟨a0, a1, a2, a3, a4, a5, a6, a7, a8, a9, a10, a11⟩, ⟨b0_, b1_, b2_, b3_, b4_, b5_, b6_, b7_, b8_, b9_, b10_⟩, ⟨rf, c1, c2⟩, dd, ⟨e1, e2⟩, e3⟩ := id X
  obtain ⟨⟨p0, p1, p2, p3, p4, p5⟩, q0_, q1_, q2_, q3_, q4_⟩ := id m
  obtain ⟨ln', ac', hi', nx, rt, ⟨i1, i2, i3, i4⟩, ⟨f1_, f2_, f3_⟩, ⟨k1, k2, k3, k4, k5⟩, hB, now, kept, old⟩ := id xd
  subst f1_; subst f2_; subst f3_
  have mk5 : atp f (M 2) (eqc (.inl (G 1, 81, .inl rb))) := by
    obtain ⟨_, _, _, _, -, -, -, ⟨-, q, -, -⟩, -⟩ := md
    exact q
  obtain ⟨sz, ρ, z0, z1, z2, z3, z4, z5⟩ := id now
  have j12 : nx.toInt.toNat < 12 := by
    have := i4.1
    have := i4.2
    omega
  obtain ⟨d1, d2, d3⟩ := dd _ j12
  obtain ⟨sa, hsa, ksa⟩ := t.fint d1 (by decide) wf_18 1 rfl
  obtain ⟨ra, kra⟩ := ro_get t d2
  have hb := t.bk9 p2 mk5
  obtain ⟨A1, A2, A3⟩ := actA_ok X j12
  obtain ⟨rA, rq, rr, r1_, r2_, r3_⟩ := id rQ
  refine (s_X10_joinX l D G b0 τ f t (K 0) a0 u1 (iv_any _) u2 (iv_any _) (sh nx.toInt.toNat) d1 (K 4) a4 b1_ (K 5) a5 b3_ ac' i2 k2 nx i4 k4 (K 6) a6 b6_ (K 10) a10 b8_ (K 7) a7 b9_ sz z0 z1 (qs nx.toInt.toNat) d2 d3 sa hsa ksa ρ z2 rf c1 ra kra rq r1_ (c2 _ j12) (e2 _ j12).1.symm rb hb.1 z4).post (fun r f1 hp => ?_)
  obtain ⟨τ1, x1, -, t1, r1, yr, ⟨nx1, y1, y2, y3, y4⟩, ⟨ac1, w1, w2, w3, w4⟩, ⟨szn, v1, v2, v3, v4⟩, ⟨sza, s1, -, s3, s4⟩, ⟨ra1, g1, g2⟩, ⟨rn1, n1, n2⟩, ⟨rq1, s5_, s6_⟩, fx⟩ := hp
  have fx := fx.wk (A := actA K (qs nx.toInt.toNat) (sh nx.toInt.toNat)) (fun a ha => List.mem_append_left [K 1, K 3] ha)
  have key := XD.acted (ln := sz) (S := [0, 4, 12, 15, 18, 50, 54, 12001, 12006, 15002, 18002]) (A := actA K (qs nx.toInt.toNat) (sh nx.toInt.toNat)) (ok := (((0 ≤ u1.toInt ∧ u1.toInt < sz.toInt) ∧ (0 ≤ u2.toInt ∧ u2.toInt < sz.toInt) ∧ (∀ s : Nat, s < 8 → (rb (10 * u1.toInt + s).toNat).toInt + (rb (10 * u2.toInt + s).toNat).toInt ≤ 9) ∧ sz.toInt ≤ 7))) (szN := sz.toInt + 1) (rbN := cm rb (jo rb u1.toInt u2.toInt)) (B := B) X i2 i3 i4 k3 k5 z1 z2 now kept old ksa kra x1 r1 fx (by decide) (by decide) A1 A2 A3 (k1.fk r1 a1 (by decide) (by decide)) i1 hB y1 y2 ⟨y3, y4⟩ w1 w2 ⟨w3, w4⟩ v1 v2 ⟨v3, v4⟩ s1 ⟨s3, s4⟩ g1 g2 n1 n2.2 (fun hok => OKr.add z4 z5 z0.1 hok.2.2.2 z3 fx x1 A1 (n2.1 hok) (pw_jo z5 z0.2 hok.1 hok.2.1 hb.1))
  rw [z3] at key w3 s6_
  exact ⟨τ1, LB.x ⟨t, X, g, m, ng, ho⟩ t1 r1 x1 (by decide) (by decide) (by decide) (by decide), ln'.toInt, ac'.toInt, hi'.toInt, B, rb, rk, ri, md.fr m r1 (by decide), RQ.x rA r2_ r3_ r1 x1 (by decide) s5_ s6_, ln'.toInt, ac1.toInt, fun hok => ⟨w3 hok, rfl, key.1 hok⟩, fun hok => key.2 hok⟩
set_option maxRecDepth 20000 in
theorem lm_7 (l : Launch) (D : va_G) (G : Nat → Nat) (b0 : Nat) {τ : Nat → Nat} {f : hM} {K sh qs M : Nat → Nat} {o : Nat} (u1 : Int32) (u2 : Int32) (h : LIP G τ f K sh qs M o (fun ln ac hi B rb rk ri => RQ G τ f K M ((if ¬ ((0 ≤ u1.toInt ∧ u1.toInt < (rb 80).toInt) ∧ (0 ≤ u2.toInt ∧ u2.toInt < (rb 80).toInt)) then 0 else (if ¬ (∀ s : Nat, s < 8 → (rb (10 * u1.toInt + s).toNat).toInt + (rb (10 * u2.toInt + s).toNat).toInt ≤ 9) then 1 else (if ¬ ((rb 80).toInt ≤ 7) then 2 else -1)))) ∧ ∃ l1 ac1 : Int, (((0 ≤ u1.toInt ∧ u1.toInt < (rb 80).toInt) ∧ (0 ≤ u2.toInt ∧ u2.toInt < (rb 80).toInt) ∧ (∀ s : Nat, s < 8 → (rb (10 * u1.toInt + s).toNat).toInt + (rb (10 * u2.toInt + s).toNat).toInt ≤ 9) ∧ (rb 80).toInt ≤ 7) → ((ac = 12 → ac1 = 12) ∧ (ac ≠ 12 → ac1 = ac + 1)) ∧ l1 = ln ∧ XD G τ f K sh qs l1 ac1 hi B (cm rb (jo rb u1.toInt u2.toInt)) (kp rk rb ac) ri) ∧ (¬ ((0 ≤ u1.toInt ∧ u1.toInt < (rb 80).toInt) ∧ (0 ≤ u2.toInt ∧ u2.toInt < (rb 80).toInt) ∧ (∀ s : Nat, s < 8 → (rb (10 * u1.toInt + s).toNat).toInt + (rb (10 * u2.toInt + s).toNat).toInt ≤ 9) ∧ (rb 80).toInt ≤ 7) → XD G τ f K sh qs ln ac hi B rb rk ri))) : mI l yX11_join cX11_join 4 (.int) rm_s_X11_joinX D G b0 f [.ref (M 0), .int u1, .int u2] (fun _ f1 => ∃ τ1, LI G τ1 f1 K sh qs M o) := by
  obtain ⟨⟨t, X, g, m, ng, ho⟩, ln, ac, hi, B, rb, rk, ri, md, rQ, l1, ac1, P1, P2⟩ := h
  obtain ⟨⟨p0, p1, p2, p3, p4, p5⟩, q0_, q1_, q2_, q3_, q4_⟩ := id m
  obtain ⟨ln', ac', hi', rt, ⟨i1, i2, i3⟩, ⟨f1_, f2_, f3_⟩, ⟨k1, k2, k3⟩, ⟨k4, k5, k6, k7⟩, mB⟩ := id md
  subst f1_; subst f2_; subst f3_
  have hb := t.bk9 p2 k5
  obtain ⟨rA, rq, rr, r1_, r2_, r3_⟩ := id rQ
  obtain ⟨rd, hrd⟩ := t.ia p5 (by decide) wf_62
  refine (s_X11_joinX l D G b0 τ f t (M 0) p0 u1 (iv_any _) u2 (iv_any _) ac' i2 k2 (M 2) p2 q1_ (M 4) p4 q3_ (M 5) p5 q4_ (M 6) rA.2.1 rA.2.2.2 rb k5 rk k7 rd hrd rr r2_ hb.1).post (fun r f1 hp => ?_)
  obtain ⟨-, t1, r1, yr, ⟨ac2, w1, w2, w3, w4⟩, ⟨rb1, b1, b2⟩, ⟨rk1, c1, c2⟩, ⟨rr1, d1, d2⟩⟩ := hp
  have rQ1 : RQ G τ f1 K M (-1) := RQ.m rA r1_ r3_ r1 (by decide) d1 d2
  have LB1 : LB G τ f1 K sh qs M o := ⟨t1, X.fr r1 (Ex.rf τ) (by decide), GJ.fr g r1 X.1.2.2.2.2.2.2.2.2.2.2.2 (by decide), m.fr r1 (Ex.rf τ) (by decide), ng.fr r1 p0 (by decide), ho⟩
  by_cases hok : ((0 ≤ u1.toInt ∧ u1.toInt < (rb 80).toInt) ∧ (0 ≤ u2.toInt ∧ u2.toInt < (rb 80).toInt) ∧ (∀ s : Nat, s < 8 → (rb (10 * u1.toInt + s).toNat).toInt + (rb (10 * u2.toInt + s).toNat).toInt ≤ 9) ∧ (rb 80).toInt ≤ 7)
  · obtain ⟨Pa, Pl, Px⟩ := P1 hok
    have w5 := w3 hok
    have e1 : ac1 = ac2.toInt := by
      by_cases c : ac'.toInt = 12
      · rw [Pa.1 c, w5.1 c]
      · rw [Pa.2 c, w5.2 c]
    subst e1
    subst Pl
    exact ⟨τ, LI.of LB1 ((Px.fr X r1 (Ex.rf τ) (by decide)).rows (fun k hk => by rw [b2 k hk, if_pos hok]) (fun k hk => by rw [c2 k hk, if_pos hok]) (fun _ _ => rfl)) ⟨ln', ac2, hi', rt, ⟨i1, w2, i3⟩, ⟨rfl, rfl, rfl⟩, ⟨(k1.fk r1 p0 (by decide) (by decide)), w1, k3.fk r1 p0 (by decide) (by decide)⟩, ⟨k4.fr r1 p1 (by decide), b1, k6.fr r1 p3 (by decide), c1⟩, mB⟩ rQ1⟩
  · exact ⟨τ, LI.of LB1 (((P2 hok).fr X r1 (Ex.rf τ) (by decide)).rows (fun k hk => by rw [b2 k hk, if_neg hok]) (fun k hk => by rw [c2 k hk, if_neg hok]) (fun _ _ => rfl)) ⟨ln', ac2, hi', rt, ⟨i1, w2, i3⟩, ⟨rfl, w4 hok, rfl⟩, ⟨(k1.fk r1 p0 (by decide) (by decide)), w1, k3.fk r1 p0 (by decide) (by decide)⟩, ⟨k4.fr r1 p1 (by decide), b1, k6.fr r1 p3 (by decide), c1⟩, mB⟩ rQ1⟩
set_option maxRecDepth 20000 in
theorem lx_3 (l : Launch) (D : va_G) (G : Nat → Nat) (b0 : Nat) {τ : Nat → Nat} {f : hM} {K sh qs M : Nat → Nat} {o : Nat} (h : LI G τ f K sh qs M o) : mI l yX10_tell cX10_tell 1 (.int) rm_s_X10_tellX D G b0 f [.ref (K 0)] (fun _ f1 => ∃ τ1, LIP G τ1 f1 K sh qs M o (fun ln ac hi B rb rk ri => RQ G τ1 f1 K M ((if ¬ (run B ln.toNat 0 0 (fun _ => 0) 0 0 0).1 = -1 then 0 else (if ¬ ((rb 80).toInt ≤ 7) then 2 else -1))) ∧ ∃ l1 ac1 : Int, (((run B ln.toNat 0 0 (fun _ => 0) 0 0 0).1 = -1 ∧ (rb 80).toInt ≤ 7) → ((ac = 12 → ac1 = 12) ∧ (ac ≠ 12 → ac1 = ac + 1)) ∧ l1 = 0 ∧ XD G τ1 f1 K sh qs l1 ac1 hi B (cm rb (tl (run B ln.toNat 0 0 (fun _ => 0) 0 0 0))) (kp rk rb ac) ri) ∧ (¬ ((run B ln.toNat 0 0 (fun _ => 0) 0 0 0).1 = -1 ∧ (rb 80).toInt ≤ 7) → XD G τ1 f1 K sh qs ln ac hi B rb rk ri))) := by
  obtain ⟨t, X, g, m, ng, ho, ln, ac, hi, B, rb, rk, ri, xd, md, rQ⟩ := id h
  obtain ⟨⟨a0, a1, a2, a3, a4, a5, a6, a7, a8, a9, a10, a11⟩, ⟨b0_, b1_, b2_, b3_, b4_, b5_, b6_, b7_, b8_, b9_, b10_⟩, ⟨rf, c1, c2⟩, dd, ⟨e1, e2⟩, e3⟩ := id X
  obtain ⟨⟨p0, p1, p2, p3, p4, p5⟩, q0_, q1_, q2_, q3_, q4_⟩ := id m
  obtain ⟨ln', ac', hi', nx, rt, ⟨i1, i2, i3, i4⟩, ⟨f1_, f2_, f3_⟩, ⟨k1, k2, k3, k4, k5⟩, hB, now, kept, old⟩ := id xd
  subst f1_; subst f2_; subst f3_
  have mk5 : atp f (M 2) (eqc (.inl (G 1, 81, .inl rb))) := by
    obtain ⟨_, _, _, _, -, -, -, ⟨-, q, -, -⟩, -⟩ := md
    exact q
  obtain ⟨sz, ρ, z0, z1, z2, z3, z4, z5⟩ := id now
  have j12 : nx.toInt.toNat < 12 := by
    have := i4.1
    have := i4.2
    omega
  obtain ⟨d1, d2, d3⟩ := dd _ j12
  obtain ⟨sa, hsa, ksa⟩ := t.fint d1 (by decide) wf_18 1 rfl
  obtain ⟨ra, kra⟩ := ro_get t d2
  have hb := t.bk9 p2 mk5
  obtain ⟨A1, A2, A3⟩ := actA_ok X j12
  obtain ⟨rA, rq, rr, r1_, r2_, r3_⟩ := id rQ
  obtain ⟨sx, hsx, ksx⟩ := t.fint a1 (by decide) wf_11 3 rfl
  obtain ⟨sy, hsy, ksy⟩ := t.fint a1 (by decide) wf_11 4 rfl
  obtain ⟨bh, hbh, kbh⟩ := t.fint a1 (by decide) wf_11 5 rfl
  obtain ⟨la, hla, kla⟩ := t.fint a1 (by decide) wf_11 6 rfl
  obtain ⟨ww, hww⟩ := t.ia a3 (by decide) wf_14
  refine (s_X10_tellX l D G b0 τ f t (K 0) a0 (sh nx.toInt.toNat) d1 (K 4) a4 b1_ (K 5) a5 b3_ ac' i2 k2 nx i4 k4 (K 6) a6 b6_ (K 10) a10 b8_ (K 7) a7 b9_ sz z0 z1 (qs nx.toInt.toNat) d2 d3 sa hsa ksa (K 1) a1 b0_ ln' i1 k1 (K 2) a2 b4_ (K 3) a3 b5_ sx hsx ksx sy hsy ksy bh hbh kbh la hla kla ρ z2 rf c1 ra kra rq r1_ rt k5 ww hww (c2 _ j12) (e2 _ j12).1.symm).post (fun r f1 hp => ?_)
  obtain ⟨τ1, x1, -, t1, r1, yr, ⟨nx1, y1, y2, y3, y4⟩, ⟨ac1, w1, w2, w3, w4⟩, ⟨szn, v1, v2, v3, v4⟩, ⟨sza, s1, -, s3, s4⟩, ⟨ln1, l1_, l2_, l3_, l4_⟩, ⟨ra1, g1, g2⟩, ⟨rn1, n1, n2⟩, ⟨rq1, s5_, s6_⟩, fx⟩ := hp
  have fx := fx.wk (A := actA K (qs nx.toInt.toNat) (sh nx.toInt.toNat)) (fun a ha => ha)
  have key := XD.acted (ln := sz) (S := [0, 4, 11, 12, 14, 15, 18, 50, 11001, 11004, 11005, 11006, 11007, 12001, 12006, 15002, 18002]) (A := actA K (qs nx.toInt.toNat) (sh nx.toInt.toNat)) (ok := (((run (tb rt) ln'.toInt.toNat 0 0 (fun _ => 0) 0 0 0).1 = -1 ∧ sz.toInt ≤ 7))) (szN := sz.toInt + 1) (rbN := cm rb (tl (run (tb rt) ln'.toInt.toNat 0 0 (fun _ => 0) 0 0 0))) (B := (tb rt)) X i2 i3 i4 k3 k5 z1 z2 now kept old ksa kra x1 r1 fx (by decide) (by decide) A1 A2 A3 l1_ l2_ (fun _ _ => rfl) y1 y2 ⟨y3, y4⟩ w1 w2 ⟨w3, w4⟩ v1 v2 ⟨v3, v4⟩ s1 ⟨s3, s4⟩ g1 g2 n1 n2.2 (fun hok => OKr.add z4 z5 z0.1 hok.2 z3 fx x1 A1 (n2.1 hok) (pw_tl hok.1))
  rw [z3] at key w3 s6_ l3_ l4_
  have md1 : MD G f M ln'.toInt ac'.toInt hi'.toInt (tb rt) rb rk ri := by
    obtain ⟨a_, b_, c_, d_, u1_, u2_, u3_, u4_, mB⟩ := md
    refine ⟨a_, b_, c_, d_, u1_, u2_, u3_, u4_, fun k hk => ?_⟩
    have q := mB k hk
    rw [← hB k hk] at q
    exact q
  exact ⟨τ1, LB.x ⟨t, X, g, m, ng, ho⟩ t1 r1 x1 (by decide) (by decide) (by decide) (by decide), ln'.toInt, ac'.toInt, hi'.toInt, tb rt, rb, rk, ri, md1.fr m r1 (by decide), RQ.x rA r2_ r3_ r1 x1 (by decide) s5_ s6_, ln1.toInt, ac1.toInt, fun hok => ⟨w3 hok, l3_ hok, key.1 hok⟩, fun hok => by rw [← l4_ hok]; exact key.2 hok⟩
set_option maxRecDepth 20000 in
theorem lm_3 (l : Launch) (D : va_G) (G : Nat → Nat) (b0 : Nat) {τ : Nat → Nat} {f : hM} {K sh qs M : Nat → Nat} {o : Nat} (h : LIP G τ f K sh qs M o (fun ln ac hi B rb rk ri => RQ G τ f K M ((if ¬ (run B ln.toNat 0 0 (fun _ => 0) 0 0 0).1 = -1 then 0 else (if ¬ ((rb 80).toInt ≤ 7) then 2 else -1))) ∧ ∃ l1 ac1 : Int, (((run B ln.toNat 0 0 (fun _ => 0) 0 0 0).1 = -1 ∧ (rb 80).toInt ≤ 7) → ((ac = 12 → ac1 = 12) ∧ (ac ≠ 12 → ac1 = ac + 1)) ∧ l1 = 0 ∧ XD G τ f K sh qs l1 ac1 hi B (cm rb (tl (run B ln.toNat 0 0 (fun _ => 0) 0 0 0))) (kp rk rb ac) ri) ∧ (¬ ((run B ln.toNat 0 0 (fun _ => 0) 0 0 0).1 = -1 ∧ (rb 80).toInt ≤ 7) → XD G τ f K sh qs ln ac hi B rb rk ri))) : mI l yX11_tell cX11_tell 1 (.int) rm_s_X11_tellX D G b0 f [.ref (M 0)] (fun _ f1 => ∃ τ1, LI G τ1 f1 K sh qs M o) := by
  obtain ⟨⟨t, X, g, m, ng, ho⟩, ln, ac, hi, B, rb, rk, ri, md, rQ, l1, ac1, P1, P2⟩ := h
  obtain ⟨⟨p0, p1, p2, p3, p4, p5⟩, q0_, q1_, q2_, q3_, q4_⟩ := id m
  obtain ⟨ln', ac', hi', rt, ⟨i1, i2, i3⟩, ⟨f1_, f2_, f3_⟩, ⟨k1, k2, k3⟩, ⟨k4, k5, k6, k7⟩, mB⟩ := id md
  subst f1_; subst f2_; subst f3_
  have hb := t.bk9 p2 k5
  obtain ⟨rA, rq, rr, r1_, r2_, r3_⟩ := id rQ
  obtain ⟨rd, hrd⟩ := t.ia p5 (by decide) wf_62
  obtain ⟨aa, haa, kaa⟩ := t.fint p0 (by decide) wf_60 3 rfl
  obtain ⟨fa, hfa, kfa⟩ := t.fint p0 (by decide) wf_60 4 rfl
  refine (s_X11_tellX l D G b0 τ f t (M 0) p0 ln' i1 k1 aa haa kaa (M 1) p1 q0_ fa hfa kfa ac' i2 k2 (M 2) p2 q1_ (M 4) p4 q3_ (M 5) p5 q4_ (M 6) rA.2.1 rA.2.2.2 rt k4 rb k5 rk k7 rd hrd rr r2_ B mB).post (fun r f1 hp => ?_)
  obtain ⟨-, t1, r1, yr, ⟨ac2, w1, w2, w3, w4⟩, ⟨ln2, l1_, l2_, l3_, l4_⟩, ⟨rb1, b1, b2⟩, ⟨rk1, c1, c2⟩, ⟨rr1, d1, d2⟩⟩ := hp
  have rQ1 : RQ G τ f1 K M (-1) := RQ.m rA r1_ r3_ r1 (by decide) d1 d2
  have LB1 : LB G τ f1 K sh qs M o := ⟨t1, X.fr r1 (Ex.rf τ) (by decide), GJ.fr g r1 X.1.2.2.2.2.2.2.2.2.2.2.2 (by decide), m.fr r1 (Ex.rf τ) (by decide), ng.fr r1 p0 (by decide), ho⟩
  by_cases hok : ((run B ln'.toInt.toNat 0 0 (fun _ => 0) 0 0 0).1 = -1 ∧ (rb 80).toInt ≤ 7)
  · obtain ⟨Pa, Pl, Px⟩ := P1 hok
    have w5 := w3 hok
    have e1 : ac1 = ac2.toInt := by
      by_cases c : ac'.toInt = 12
      · rw [Pa.1 c, w5.1 c]
      · rw [Pa.2 c, w5.2 c]
    subst e1
    subst Pl
    exact ⟨τ, LI.of LB1 ((Px.fr X r1 (Ex.rf τ) (by decide)).rows (fun k hk => by rw [b2 k hk, if_pos hok]) (fun k hk => by rw [c2 k hk, if_pos hok]) (fun _ _ => rfl)) ⟨ln2, ac2, hi', rt, ⟨l2_, w2, i3⟩, ⟨l3_ hok, rfl, rfl⟩, ⟨l1_, w1, k3.fk r1 p0 (by decide) (by decide)⟩, ⟨k4.fr r1 p1 (by decide), b1, k6.fr r1 p3 (by decide), c1⟩, (fun k hk => absurd hk (by omega))⟩ rQ1⟩
  · exact ⟨τ, LI.of LB1 (((P2 hok).fr X r1 (Ex.rf τ) (by decide)).rows (fun k hk => by rw [b2 k hk, if_neg hok]) (fun k hk => by rw [c2 k hk, if_neg hok]) (fun _ _ => rfl)) ⟨ln2, ac2, hi', rt, ⟨l2_, w2, i3⟩, ⟨l4_ hok, w4 hok, rfl⟩, ⟨l1_, w1, k3.fk r1 p0 (by decide) (by decide)⟩, ⟨k4.fr r1 p1 (by decide), b1, k6.fr r1 p3 (by decide), c1⟩, mB⟩ rQ1⟩
set_option maxRecDepth 20000 in
theorem lx_8 (l : Launch) (D : va_G) (G : Nat → Nat) (b0 : Nat) {τ : Nat → Nat} {f : hM} {K sh qs M : Nat → Nat} {o : Nat} (h : LI G τ f K sh qs M o) (u1 : Int32) (u2 : Int32) : mI l yX10_scale cX10_scale 6 (.int) rm_s_X10_scaleX D G b0 f [.ref (K 0), .int u1, .int u2] (fun _ f1 => ∃ τ1, LIP G τ1 f1 K sh qs M o (fun ln ac hi B rb rk ri => RQ G τ1 f1 K M ((if ¬ (0 ≤ u1.toInt ∧ u1.toInt < (rb 80).toInt) then 0 else (if ¬ (2 ≤ u2.toInt ∧ u2.toInt ≤ 9) then 1 else (if ¬ (∀ s : Nat, s < 8 → (rb (10 * u1.toInt + s).toNat * u2).toInt ≤ 9) then 1 else -1)))) ∧ ∃ l1 ac1 : Int, (((0 ≤ u1.toInt ∧ u1.toInt < (rb 80).toInt) ∧ (2 ≤ u2.toInt ∧ u2.toInt ≤ 9) ∧ (∀ s : Nat, s < 8 → (rb (10 * u1.toInt + s).toNat * u2).toInt ≤ 9)) → ((ac = 12 → ac1 = 12) ∧ (ac ≠ 12 → ac1 = ac + 1)) ∧ l1 = ln ∧ XD G τ1 f1 K sh qs l1 ac1 hi B (sc rb u1.toInt u2) (kp rk rb ac) ri) ∧ (¬ ((0 ≤ u1.toInt ∧ u1.toInt < (rb 80).toInt) ∧ (2 ≤ u2.toInt ∧ u2.toInt ≤ 9) ∧ (∀ s : Nat, s < 8 → (rb (10 * u1.toInt + s).toNat * u2).toInt ≤ 9)) → XD G τ1 f1 K sh qs ln ac hi B rb rk ri))) := by
  obtain ⟨t, X, g, m, ng, ho, ln, ac, hi, B, rb, rk, ri, xd, md, rQ⟩ := id h
  obtain ⟨⟨a0, a1, a2, a3, a4, a5, a6, a7, a8, a9, a10, a11⟩, ⟨b0_, b1_, b2_, b3_, b4_, b5_, b6_, b7_, b8_, b9_, b10_⟩, ⟨rf, c1, c2⟩, dd, ⟨e1, e2⟩, e3⟩ := id X
  obtain ⟨⟨p0, p1, p2, p3, p4, p5⟩, q0_, q1_, q2_, q3_, q4_⟩ := id m
  obtain ⟨ln', ac', hi', nx, rt, ⟨i1, i2, i3, i4⟩, ⟨f1_, f2_, f3_⟩, ⟨k1, k2, k3, k4, k5⟩, hB, now, kept, old⟩ := id xd
  subst f1_; subst f2_; subst f3_
  have mk5 : atp f (M 2) (eqc (.inl (G 1, 81, .inl rb))) := by
    obtain ⟨_, _, _, _, -, -, -, ⟨-, q, -, -⟩, -⟩ := md
    exact q
  obtain ⟨sz, ρ, z0, z1, z2, z3, z4, z5⟩ := id now
  have j12 : nx.toInt.toNat < 12 := by
    have := i4.1
    have := i4.2
    omega
  obtain ⟨d1, d2, d3⟩ := dd _ j12
  obtain ⟨sa, hsa, ksa⟩ := t.fint d1 (by decide) wf_18 1 rfl
  obtain ⟨ra, kra⟩ := ro_get t d2
  have hb := t.bk9 p2 mk5
  obtain ⟨A1, A2, A3⟩ := actA_ok X j12
  obtain ⟨rA, rq, rr, r1_, r2_, r3_⟩ := id rQ
  refine (s_X10_scaleX l D G b0 τ f t (K 0) a0 u1 (iv_any _) u2 (iv_any _) (sh nx.toInt.toNat) d1 (K 4) a4 b1_ (K 5) a5 b3_ ac' i2 k2 nx i4 k4 (K 6) a6 b6_ (K 10) a10 b8_ (K 7) a7 b9_ sz z0 z1 (qs nx.toInt.toNat) d2 d3 sa hsa ksa ρ z2 rf c1 ra kra rq r1_ (c2 _ j12) (e2 _ j12).1.symm rb hb.1 z4).post (fun r f1 hp => ?_)
  obtain ⟨τ1, x1, -, t1, r1, yr, ⟨nx1, y1, y2, y3, y4⟩, ⟨ac1, w1, w2, w3, w4⟩, ⟨szn, v1, v2, v3, v4⟩, ⟨sza, s1, -, s3, s4⟩, ⟨ra1, g1, g2⟩, ⟨rn1, n1, n2⟩, ⟨rq1, s5_, s6_⟩, fx⟩ := hp
  have fx := fx.wk (A := actA K (qs nx.toInt.toNat) (sh nx.toInt.toNat)) (fun a ha => List.mem_append_left [K 1, K 3] ha)
  have key := XD.acted (ln := sz) (S := [0, 4, 12, 18, 50, 54, 12001, 12006, 18002]) (A := actA K (qs nx.toInt.toNat) (sh nx.toInt.toNat)) (ok := (((0 ≤ u1.toInt ∧ u1.toInt < sz.toInt) ∧ (2 ≤ u2.toInt ∧ u2.toInt ≤ 9) ∧ (∀ s : Nat, s < 8 → (rb (10 * u1.toInt + s).toNat * u2).toInt ≤ 9)))) (szN := sz.toInt) (rbN := sc rb u1.toInt u2) (B := B) X i2 i3 i4 k3 k5 z1 z2 now kept old ksa kra x1 r1 fx (by decide) (by decide) A1 A2 A3 (k1.fk r1 a1 (by decide) (by decide)) i1 hB y1 y2 ⟨y3, y4⟩ w1 w2 ⟨w3, w4⟩ v1 v2 ⟨v3, v4⟩ s1 ⟨s3, s4⟩ g1 g2 n1 n2.2 (fun hok => OKr.rep (v2 := sc rb u1.toInt u2) z4 z5 z0.2 hok.1 z3 fx x1 A1 (n2.1 hok) (pw_sc z5 z0.2 hok.1 hok.2.1 hb.1) (fun k hk hn => by unfold sc; rw [if_neg (by omega)]))
  rw [z3] at key w3 s6_
  exact ⟨τ1, LB.x ⟨t, X, g, m, ng, ho⟩ t1 r1 x1 (by decide) (by decide) (by decide) (by decide), ln'.toInt, ac'.toInt, hi'.toInt, B, rb, rk, ri, md.fr m r1 (by decide), RQ.x rA r2_ r3_ r1 x1 (by decide) s5_ s6_, ln'.toInt, ac1.toInt, fun hok => ⟨w3 hok, rfl, key.1 hok⟩, fun hok => key.2 hok⟩
set_option maxRecDepth 20000 in
theorem lm_8 (l : Launch) (D : va_G) (G : Nat → Nat) (b0 : Nat) {τ : Nat → Nat} {f : hM} {K sh qs M : Nat → Nat} {o : Nat} (u1 : Int32) (u2 : Int32) (h : LIP G τ f K sh qs M o (fun ln ac hi B rb rk ri => RQ G τ f K M ((if ¬ (0 ≤ u1.toInt ∧ u1.toInt < (rb 80).toInt) then 0 else (if ¬ (2 ≤ u2.toInt ∧ u2.toInt ≤ 9) then 1 else (if ¬ (∀ s : Nat, s < 8 → (rb (10 * u1.toInt + s).toNat * u2).toInt ≤ 9) then 1 else -1)))) ∧ ∃ l1 ac1 : Int, (((0 ≤ u1.toInt ∧ u1.toInt < (rb 80).toInt) ∧ (2 ≤ u2.toInt ∧ u2.toInt ≤ 9) ∧ (∀ s : Nat, s < 8 → (rb (10 * u1.toInt + s).toNat * u2).toInt ≤ 9)) → ((ac = 12 → ac1 = 12) ∧ (ac ≠ 12 → ac1 = ac + 1)) ∧ l1 = ln ∧ XD G τ f K sh qs l1 ac1 hi B (sc rb u1.toInt u2) (kp rk rb ac) ri) ∧ (¬ ((0 ≤ u1.toInt ∧ u1.toInt < (rb 80).toInt) ∧ (2 ≤ u2.toInt ∧ u2.toInt ≤ 9) ∧ (∀ s : Nat, s < 8 → (rb (10 * u1.toInt + s).toNat * u2).toInt ≤ 9)) → XD G τ f K sh qs ln ac hi B rb rk ri))) : mI l yX11_scale cX11_scale 4 (.int) rm_s_X11_scaleX D G b0 f [.ref (M 0), .int u1, .int u2] (fun _ f1 => ∃ τ1, LI G τ1 f1 K sh qs M o) := by
  obtain ⟨⟨t, X, g, m, ng, ho⟩, ln, ac, hi, B, rb, rk, ri, md, rQ, l1, ac1, P1, P2⟩ := h
  obtain ⟨⟨p0, p1, p2, p3, p4, p5⟩, q0_, q1_, q2_, q3_, q4_⟩ := id m
  obtain ⟨ln', ac', hi', rt, ⟨i1, i2, i3⟩, ⟨f1_, f2_, f3_⟩, ⟨k1, k2, k3⟩, ⟨k4, k5, k6, k7⟩, mB⟩ := id md
  subst f1_; subst f2_; subst f3_
  have hb := t.bk9 p2 k5
  obtain ⟨rA, rq, rr, r1_, r2_, r3_⟩ := id rQ
  obtain ⟨rd, hrd⟩ := t.ia p5 (by decide) wf_62
  refine (s_X11_scaleX l D G b0 τ f t (M 0) p0 u1 (iv_any _) u2 (iv_any _) ac' i2 k2 (M 2) p2 q1_ (M 4) p4 q3_ (M 6) rA.2.1 rA.2.2.2 rb k5 rk k7 rr r2_).post (fun r f1 hp => ?_)
  obtain ⟨-, t1, r1, yr, ⟨ac2, w1, w2, w3, w4⟩, ⟨rb1, b1, b2⟩, ⟨rk1, c1, c2⟩, ⟨rr1, d1, d2⟩⟩ := hp
  have rQ1 : RQ G τ f1 K M (-1) := RQ.m rA r1_ r3_ r1 (by decide) d1 d2
  have LB1 : LB G τ f1 K sh qs M o := ⟨t1, X.fr r1 (Ex.rf τ) (by decide), GJ.fr g r1 X.1.2.2.2.2.2.2.2.2.2.2.2 (by decide), m.fr r1 (Ex.rf τ) (by decide), ng.fr r1 p0 (by decide), ho⟩
  by_cases hok : ((0 ≤ u1.toInt ∧ u1.toInt < (rb 80).toInt) ∧ (2 ≤ u2.toInt ∧ u2.toInt ≤ 9) ∧ (∀ s : Nat, s < 8 → (rb (10 * u1.toInt + s).toNat * u2).toInt ≤ 9))
  · obtain ⟨Pa, Pl, Px⟩ := P1 hok
    have w5 := w3 hok
    have e1 : ac1 = ac2.toInt := by
      by_cases c : ac'.toInt = 12
      · rw [Pa.1 c, w5.1 c]
      · rw [Pa.2 c, w5.2 c]
    subst e1
    subst Pl
    exact ⟨τ, LI.of LB1 ((Px.fr X r1 (Ex.rf τ) (by decide)).rows (fun k hk => by rw [b2 k hk, if_pos hok]) (fun k hk => by rw [c2 k hk, if_pos hok]) (fun _ _ => rfl)) ⟨ln', ac2, hi', rt, ⟨i1, w2, i3⟩, ⟨rfl, rfl, rfl⟩, ⟨(k1.fk r1 p0 (by decide) (by decide)), w1, k3.fk r1 p0 (by decide) (by decide)⟩, ⟨k4.fr r1 p1 (by decide), b1, k6.fr r1 p3 (by decide), c1⟩, mB⟩ rQ1⟩
  · exact ⟨τ, LI.of LB1 (((P2 hok).fr X r1 (Ex.rf τ) (by decide)).rows (fun k hk => by rw [b2 k hk, if_neg hok]) (fun k hk => by rw [c2 k hk, if_neg hok]) (fun _ _ => rfl)) ⟨ln', ac2, hi', rt, ⟨i1, w2, i3⟩, ⟨rfl, w4 hok, rfl⟩, ⟨(k1.fk r1 p0 (by decide) (by decide)), w1, k3.fk r1 p0 (by decide) (by decide)⟩, ⟨k4.fr r1 p1 (by decide), b1, k6.fr r1 p3 (by decide), c1⟩, mB⟩ rQ1⟩
set_option maxRecDepth 20000 in
theorem lx_10 (l : Launch) (D : va_G) (G : Nat → Nat) (b0 : Nat) {τ : Nat → Nat} {f : hM} {K sh qs M : Nat → Nat} {o : Nat} (h : LI G τ f K sh qs M o) (u1 : Int32) (u2 : Int32) (u3 : Int32) : mI l yX10_start cX10_start 5 (.int) rm_s_X10_startX D G b0 f [.ref (K 0), .int u1, .int u2, .int u3] (fun _ f1 => ∃ τ1, LIP G τ1 f1 K sh qs M o (fun ln ac hi B rb rk ri => RQ G τ1 f1 K M ((if ¬ (0 ≤ u1.toInt ∧ u1.toInt < (rb 80).toInt) then 0 else (if ¬ (0 ≤ u2.toInt ∧ u2.toInt ≤ 9) ∨ ¬ (0 ≤ u3.toInt ∧ u3.toInt ≤ 9) then 1 else (if (rb (10 * u1.toInt + 8).toNat).toInt = u2.toInt ∧ (rb (10 * u1.toInt + 9).toNat).toInt = u3.toInt then 3 else -1)))) ∧ ∃ l1 ac1 : Int, (((0 ≤ u1.toInt ∧ u1.toInt < (rb 80).toInt) ∧ (0 ≤ u2.toInt ∧ u2.toInt ≤ 9) ∧ (0 ≤ u3.toInt ∧ u3.toInt ≤ 9) ∧ ¬ ((rb (10 * u1.toInt + 8).toNat).toInt = u2.toInt ∧ (rb (10 * u1.toInt + 9).toNat).toInt = u3.toInt)) → ((ac = 12 → ac1 = 12) ∧ (ac ≠ 12 → ac1 = ac + 1)) ∧ l1 = ln ∧ XD G τ1 f1 K sh qs l1 ac1 hi B (so rb u1.toInt u2 u3) (kp rk rb ac) ri) ∧ (¬ ((0 ≤ u1.toInt ∧ u1.toInt < (rb 80).toInt) ∧ (0 ≤ u2.toInt ∧ u2.toInt ≤ 9) ∧ (0 ≤ u3.toInt ∧ u3.toInt ≤ 9) ∧ ¬ ((rb (10 * u1.toInt + 8).toNat).toInt = u2.toInt ∧ (rb (10 * u1.toInt + 9).toNat).toInt = u3.toInt)) → XD G τ1 f1 K sh qs ln ac hi B rb rk ri))) := by
  obtain ⟨t, X, g, m, ng, ho, ln, ac, hi, B, rb, rk, ri, xd, md, rQ⟩ := id h
  obtain ⟨⟨a0, a1, a2, a3, a4, a5, a6, a7, a8, a9, a10, a11⟩, ⟨b0_, b1_, b2_, b3_, b4_, b5_, b6_, b7_, b8_, b9_, b10_⟩, ⟨rf, c1, c2⟩, dd, ⟨e1, e2⟩, e3⟩ := id X
  obtain ⟨⟨p0, p1, p2, p3, p4, p5⟩, q0_, q1_, q2_, q3_, q4_⟩ := id m
  obtain ⟨ln', ac', hi', nx, rt, ⟨i1, i2, i3, i4⟩, ⟨f1_, f2_, f3_⟩, ⟨k1, k2, k3, k4, k5⟩, hB, now, kept, old⟩ := id xd
  subst f1_; subst f2_; subst f3_
  have mk5 : atp f (M 2) (eqc (.inl (G 1, 81, .inl rb))) := by
    obtain ⟨_, _, _, _, -, -, -, ⟨-, q, -, -⟩, -⟩ := md
    exact q
  obtain ⟨sz, ρ, z0, z1, z2, z3, z4, z5⟩ := id now
  have j12 : nx.toInt.toNat < 12 := by
    have := i4.1
    have := i4.2
    omega
  obtain ⟨d1, d2, d3⟩ := dd _ j12
  obtain ⟨sa, hsa, ksa⟩ := t.fint d1 (by decide) wf_18 1 rfl
  obtain ⟨ra, kra⟩ := ro_get t d2
  have hb := t.bk9 p2 mk5
  obtain ⟨A1, A2, A3⟩ := actA_ok X j12
  obtain ⟨rA, rq, rr, r1_, r2_, r3_⟩ := id rQ
  refine (s_X10_startX l D G b0 τ f t (K 0) a0 u1 (iv_any _) u2 (iv_any _) u3 (iv_any _) (sh nx.toInt.toNat) d1 (K 4) a4 b1_ (K 5) a5 b3_ ac' i2 k2 nx i4 k4 (K 6) a6 b6_ (K 10) a10 b8_ (K 7) a7 b9_ sz z0 z1 (qs nx.toInt.toNat) d2 d3 sa hsa ksa ρ z2 rf c1 ra kra rq r1_ (c2 _ j12) (e2 _ j12).1.symm rb hb.1 z4).post (fun r f1 hp => ?_)
  obtain ⟨τ1, x1, -, t1, r1, yr, ⟨nx1, y1, y2, y3, y4⟩, ⟨ac1, w1, w2, w3, w4⟩, ⟨szn, v1, v2, v3, v4⟩, ⟨sza, s1, -, s3, s4⟩, ⟨ra1, g1, g2⟩, ⟨rn1, n1, n2⟩, ⟨rq1, s5_, s6_⟩, fx⟩ := hp
  have fx := fx.wk (A := actA K (qs nx.toInt.toNat) (sh nx.toInt.toNat)) (fun a ha => List.mem_append_left [K 1, K 3] ha)
  have key := XD.acted (ln := sz) (S := [0, 4, 12, 18, 50, 12001, 12006, 18002]) (A := actA K (qs nx.toInt.toNat) (sh nx.toInt.toNat)) (ok := (((0 ≤ u1.toInt ∧ u1.toInt < sz.toInt) ∧ (0 ≤ u2.toInt ∧ u2.toInt ≤ 9) ∧ (0 ≤ u3.toInt ∧ u3.toInt ≤ 9) ∧ ¬ ((rb (10 * u1.toInt + 8).toNat).toInt = u2.toInt ∧ (rb (10 * u1.toInt + 9).toNat).toInt = u3.toInt)))) (szN := sz.toInt) (rbN := so rb u1.toInt u2 u3) (B := B) X i2 i3 i4 k3 k5 z1 z2 now kept old ksa kra x1 r1 fx (by decide) (by decide) A1 A2 A3 (k1.fk r1 a1 (by decide) (by decide)) i1 hB y1 y2 ⟨y3, y4⟩ w1 w2 ⟨w3, w4⟩ v1 v2 ⟨v3, v4⟩ s1 ⟨s3, s4⟩ g1 g2 n1 n2.2 (fun hok => OKr.rep (v2 := so rb u1.toInt u2 u3) z4 z5 z0.2 hok.1 z3 fx x1 A1 (n2.1 hok) (pw_so z5 hok.1) (fun k hk hn => by unfold so; rw [if_neg (by omega), if_neg (by omega)]))
  rw [z3] at key w3 s6_
  exact ⟨τ1, LB.x ⟨t, X, g, m, ng, ho⟩ t1 r1 x1 (by decide) (by decide) (by decide) (by decide), ln'.toInt, ac'.toInt, hi'.toInt, B, rb, rk, ri, md.fr m r1 (by decide), RQ.x rA r2_ r3_ r1 x1 (by decide) s5_ s6_, ln'.toInt, ac1.toInt, fun hok => ⟨w3 hok, rfl, key.1 hok⟩, fun hok => key.2 hok⟩
set_option maxRecDepth 20000 in
theorem lm_10 (l : Launch) (D : va_G) (G : Nat → Nat) (b0 : Nat) {τ : Nat → Nat} {f : hM} {K sh qs M : Nat → Nat} {o : Nat} (u1 : Int32) (u2 : Int32) (u3 : Int32) (h : LIP G τ f K sh qs M o (fun ln ac hi B rb rk ri => RQ G τ f K M ((if ¬ (0 ≤ u1.toInt ∧ u1.toInt < (rb 80).toInt) then 0 else (if ¬ (0 ≤ u2.toInt ∧ u2.toInt ≤ 9) ∨ ¬ (0 ≤ u3.toInt ∧ u3.toInt ≤ 9) then 1 else (if (rb (10 * u1.toInt + 8).toNat).toInt = u2.toInt ∧ (rb (10 * u1.toInt + 9).toNat).toInt = u3.toInt then 3 else -1)))) ∧ ∃ l1 ac1 : Int, (((0 ≤ u1.toInt ∧ u1.toInt < (rb 80).toInt) ∧ (0 ≤ u2.toInt ∧ u2.toInt ≤ 9) ∧ (0 ≤ u3.toInt ∧ u3.toInt ≤ 9) ∧ ¬ ((rb (10 * u1.toInt + 8).toNat).toInt = u2.toInt ∧ (rb (10 * u1.toInt + 9).toNat).toInt = u3.toInt)) → ((ac = 12 → ac1 = 12) ∧ (ac ≠ 12 → ac1 = ac + 1)) ∧ l1 = ln ∧ XD G τ f K sh qs l1 ac1 hi B (so rb u1.toInt u2 u3) (kp rk rb ac) ri) ∧ (¬ ((0 ≤ u1.toInt ∧ u1.toInt < (rb 80).toInt) ∧ (0 ≤ u2.toInt ∧ u2.toInt ≤ 9) ∧ (0 ≤ u3.toInt ∧ u3.toInt ≤ 9) ∧ ¬ ((rb (10 * u1.toInt + 8).toNat).toInt = u2.toInt ∧ (rb (10 * u1.toInt + 9).toNat).toInt = u3.toInt)) → XD G τ f K sh qs ln ac hi B rb rk ri))) : mI l yX11_start cX11_start 5 (.int) rm_s_X11_startX D G b0 f [.ref (M 0), .int u1, .int u2, .int u3] (fun _ f1 => ∃ τ1, LI G τ1 f1 K sh qs M o) := by
  obtain ⟨⟨t, X, g, m, ng, ho⟩, ln, ac, hi, B, rb, rk, ri, md, rQ, l1, ac1, P1, P2⟩ := h
  obtain ⟨⟨p0, p1, p2, p3, p4, p5⟩, q0_, q1_, q2_, q3_, q4_⟩ := id m
  obtain ⟨ln', ac', hi', rt, ⟨i1, i2, i3⟩, ⟨f1_, f2_, f3_⟩, ⟨k1, k2, k3⟩, ⟨k4, k5, k6, k7⟩, mB⟩ := id md
  subst f1_; subst f2_; subst f3_
  have hb := t.bk9 p2 k5
  obtain ⟨rA, rq, rr, r1_, r2_, r3_⟩ := id rQ
  obtain ⟨rd, hrd⟩ := t.ia p5 (by decide) wf_62
  refine (s_X11_startX l D G b0 τ f t (M 0) p0 u1 (iv_any _) u2 (iv_any _) u3 (iv_any _) ac' i2 k2 (M 2) p2 q1_ (M 4) p4 q3_ (M 6) rA.2.1 rA.2.2.2 rb k5 rk k7 rr r2_).post (fun r f1 hp => ?_)
  obtain ⟨-, t1, r1, yr, ⟨ac2, w1, w2, w3, w4⟩, ⟨rb1, b1, b2⟩, ⟨rk1, c1, c2⟩, ⟨rr1, d1, d2⟩⟩ := hp
  have rQ1 : RQ G τ f1 K M (-1) := RQ.m rA r1_ r3_ r1 (by decide) d1 d2
  have LB1 : LB G τ f1 K sh qs M o := ⟨t1, X.fr r1 (Ex.rf τ) (by decide), GJ.fr g r1 X.1.2.2.2.2.2.2.2.2.2.2.2 (by decide), m.fr r1 (Ex.rf τ) (by decide), ng.fr r1 p0 (by decide), ho⟩
  by_cases hok : ((0 ≤ u1.toInt ∧ u1.toInt < (rb 80).toInt) ∧ (0 ≤ u2.toInt ∧ u2.toInt ≤ 9) ∧ (0 ≤ u3.toInt ∧ u3.toInt ≤ 9) ∧ ¬ ((rb (10 * u1.toInt + 8).toNat).toInt = u2.toInt ∧ (rb (10 * u1.toInt + 9).toNat).toInt = u3.toInt))
  · obtain ⟨Pa, Pl, Px⟩ := P1 hok
    have w5 := w3 hok
    have e1 : ac1 = ac2.toInt := by
      by_cases c : ac'.toInt = 12
      · rw [Pa.1 c, w5.1 c]
      · rw [Pa.2 c, w5.2 c]
    subst e1
    subst Pl
    exact ⟨τ, LI.of LB1 ((Px.fr X r1 (Ex.rf τ) (by decide)).rows (fun k hk => by rw [b2 k hk, if_pos hok]) (fun k hk => by rw [c2 k hk, if_pos hok]) (fun _ _ => rfl)) ⟨ln', ac2, hi', rt, ⟨i1, w2, i3⟩, ⟨rfl, rfl, rfl⟩, ⟨(k1.fk r1 p0 (by decide) (by decide)), w1, k3.fk r1 p0 (by decide) (by decide)⟩, ⟨k4.fr r1 p1 (by decide), b1, k6.fr r1 p3 (by decide), c1⟩, mB⟩ rQ1⟩
  · exact ⟨τ, LI.of LB1 (((P2 hok).fr X r1 (Ex.rf τ) (by decide)).rows (fun k hk => by rw [b2 k hk, if_neg hok]) (fun k hk => by rw [c2 k hk, if_neg hok]) (fun _ _ => rfl)) ⟨ln', ac2, hi', rt, ⟨i1, w2, i3⟩, ⟨rfl, w4 hok, rfl⟩, ⟨(k1.fk r1 p0 (by decide) (by decide)), w1, k3.fk r1 p0 (by decide) (by decide)⟩, ⟨k4.fr r1 p1 (by decide), b1, k6.fr r1 p3 (by decide), c1⟩, mB⟩ rQ1⟩
set_option maxRecDepth 20000 in
theorem lx_9 (l : Launch) (D : va_G) (G : Nat → Nat) (b0 : Nat) {τ : Nat → Nat} {f : hM} {K sh qs M : Nat → Nat} {o : Nat} (h : LI G τ f K sh qs M o) (u1 : Int32) (u2 : Int32) (u3 : Int32) : mI l yX10_weigh cX10_weigh 7 (.int) rm_s_X10_weighX D G b0 f [.ref (K 0), .int u1, .int u2, .int u3] (fun _ f1 => ∃ τ1, LIP G τ1 f1 K sh qs M o (fun ln ac hi B rb rk ri => RQ G τ1 f1 K M ((if ¬ (0 ≤ u1.toInt ∧ u1.toInt < (rb 80).toInt) then 0 else (if ¬ (0 ≤ u2.toInt ∧ u2.toInt ≤ 7) ∨ ¬ (0 ≤ u3.toInt ∧ u3.toInt ≤ 9) ∨ (u3.toInt = 0 ∧ 0 < (rb (10 * u1.toInt + u2.toInt).toNat).toInt ∧ cnt rb u1.toInt 8 = 1) then 1 else (if (rb (10 * u1.toInt + u2.toInt).toNat).toInt = u3.toInt then 3 else -1)))) ∧ ∃ l1 ac1 : Int, (((0 ≤ u1.toInt ∧ u1.toInt < (rb 80).toInt) ∧ (0 ≤ u2.toInt ∧ u2.toInt ≤ 7) ∧ (0 ≤ u3.toInt ∧ u3.toInt ≤ 9) ∧ ¬ (u3.toInt = 0 ∧ 0 < (rb (10 * u1.toInt + u2.toInt).toNat).toInt ∧ cnt rb u1.toInt 8 = 1) ∧ (rb (10 * u1.toInt + u2.toInt).toNat).toInt ≠ u3.toInt) → ((ac = 12 → ac1 = 12) ∧ (ac ≠ 12 → ac1 = ac + 1)) ∧ l1 = ln ∧ XD G τ1 f1 K sh qs l1 ac1 hi B (we rb u1.toInt u2.toInt u3) (kp rk rb ac) ri) ∧ (¬ ((0 ≤ u1.toInt ∧ u1.toInt < (rb 80).toInt) ∧ (0 ≤ u2.toInt ∧ u2.toInt ≤ 7) ∧ (0 ≤ u3.toInt ∧ u3.toInt ≤ 9) ∧ ¬ (u3.toInt = 0 ∧ 0 < (rb (10 * u1.toInt + u2.toInt).toNat).toInt ∧ cnt rb u1.toInt 8 = 1) ∧ (rb (10 * u1.toInt + u2.toInt).toNat).toInt ≠ u3.toInt) → XD G τ1 f1 K sh qs ln ac hi B rb rk ri))) := by
  obtain ⟨t, X, g, m, ng, ho, ln, ac, hi, B, rb, rk, ri, xd, md, rQ⟩ := id h
  obtain ⟨⟨a0, a1, a2, a3, a4, a5, a6, a7, a8, a9, a10, a11⟩, ⟨b0_, b1_, b2_, b3_, b4_, b5_, b6_, b7_, b8_, b9_, b10_⟩, ⟨rf, c1, c2⟩, dd, ⟨e1, e2⟩, e3⟩ := id X
  obtain ⟨⟨p0, p1, p2, p3, p4, p5⟩, q0_, q1_, q2_, q3_, q4_⟩ := id m
  obtain ⟨ln', ac', hi', nx, rt, ⟨i1, i2, i3, i4⟩, ⟨f1_, f2_, f3_⟩, ⟨k1, k2, k3, k4, k5⟩, hB, now, kept, old⟩ := id xd
  subst f1_; subst f2_; subst f3_
  have mk5 : atp f (M 2) (eqc (.inl (G 1, 81, .inl rb))) := by
    obtain ⟨_, _, _, _, -, -, -, ⟨-, q, -, -⟩, -⟩ := md
    exact q
  obtain ⟨sz, ρ, z0, z1, z2, z3, z4, z5⟩ := id now
  have j12 : nx.toInt.toNat < 12 := by
    have := i4.1
    have := i4.2
    omega
  obtain ⟨d1, d2, d3⟩ := dd _ j12
  obtain ⟨sa, hsa, ksa⟩ := t.fint d1 (by decide) wf_18 1 rfl
  obtain ⟨ra, kra⟩ := ro_get t d2
  have hb := t.bk9 p2 mk5
  obtain ⟨A1, A2, A3⟩ := actA_ok X j12
  obtain ⟨rA, rq, rr, r1_, r2_, r3_⟩ := id rQ
  refine (s_X10_weighX l D G b0 τ f t (K 0) a0 u1 (iv_any _) u2 (iv_any _) u3 (iv_any _) (sh nx.toInt.toNat) d1 (K 4) a4 b1_ (K 5) a5 b3_ ac' i2 k2 nx i4 k4 (K 6) a6 b6_ (K 10) a10 b8_ (K 7) a7 b9_ sz z0 z1 (qs nx.toInt.toNat) d2 d3 sa hsa ksa ρ z2 rf c1 ra kra rq r1_ (c2 _ j12) (e2 _ j12).1.symm rb hb.1 z4 z5).post (fun r f1 hp => ?_)
  obtain ⟨τ1, x1, -, t1, r1, yr, ⟨nx1, y1, y2, y3, y4⟩, ⟨ac1, w1, w2, w3, w4⟩, ⟨szn, v1, v2, v3, v4⟩, ⟨sza, s1, -, s3, s4⟩, ⟨ra1, g1, g2⟩, ⟨rn1, n1, n2⟩, ⟨rq1, s5_, s6_⟩, fx⟩ := hp
  have fx := fx.wk (A := actA K (qs nx.toInt.toNat) (sh nx.toInt.toNat)) (fun a ha => List.mem_append_left [K 1, K 3] ha)
  have key := XD.acted (ln := sz) (S := [0, 4, 12, 18, 50, 54, 12001, 12006, 18002]) (A := actA K (qs nx.toInt.toNat) (sh nx.toInt.toNat)) (ok := (((0 ≤ u1.toInt ∧ u1.toInt < sz.toInt) ∧ (0 ≤ u2.toInt ∧ u2.toInt ≤ 7) ∧ (0 ≤ u3.toInt ∧ u3.toInt ≤ 9) ∧ ¬ (u3.toInt = 0 ∧ 0 < (rb (10 * u1.toInt + u2.toInt).toNat).toInt ∧ cnt rb u1.toInt 8 = 1) ∧ (rb (10 * u1.toInt + u2.toInt).toNat).toInt ≠ u3.toInt))) (szN := sz.toInt) (rbN := we rb u1.toInt u2.toInt u3) (B := B) X i2 i3 i4 k3 k5 z1 z2 now kept old ksa kra x1 r1 fx (by decide) (by decide) A1 A2 A3 (k1.fk r1 a1 (by decide) (by decide)) i1 hB y1 y2 ⟨y3, y4⟩ w1 w2 ⟨w3, w4⟩ v1 v2 ⟨v3, v4⟩ s1 ⟨s3, s4⟩ g1 g2 n1 n2.2 (fun hok => OKr.rep (v2 := we rb u1.toInt u2.toInt u3) z4 z5 z0.2 hok.1 z3 fx x1 A1 (n2.1 hok) (pw_we z5 z0.2 hok.1 hok.2.1 hok.2.2.1 hb.1 hok.2.2.2.1 hok.2.2.2.2) (fun k hk hn => by unfold we; have := hok.2.1.1; have := hok.2.1.2; rw [if_neg (by omega)]))
  rw [z3] at key w3 s6_
  exact ⟨τ1, LB.x ⟨t, X, g, m, ng, ho⟩ t1 r1 x1 (by decide) (by decide) (by decide) (by decide), ln'.toInt, ac'.toInt, hi'.toInt, B, rb, rk, ri, md.fr m r1 (by decide), RQ.x rA r2_ r3_ r1 x1 (by decide) s5_ s6_, ln'.toInt, ac1.toInt, fun hok => ⟨w3 hok, rfl, key.1 hok⟩, fun hok => key.2 hok⟩
set_option maxRecDepth 20000 in
theorem lm_9 (l : Launch) (D : va_G) (G : Nat → Nat) (b0 : Nat) {τ : Nat → Nat} {f : hM} {K sh qs M : Nat → Nat} {o : Nat} (u1 : Int32) (u2 : Int32) (u3 : Int32) (h : LIP G τ f K sh qs M o (fun ln ac hi B rb rk ri => RQ G τ f K M ((if ¬ (0 ≤ u1.toInt ∧ u1.toInt < (rb 80).toInt) then 0 else (if ¬ (0 ≤ u2.toInt ∧ u2.toInt ≤ 7) ∨ ¬ (0 ≤ u3.toInt ∧ u3.toInt ≤ 9) ∨ (u3.toInt = 0 ∧ 0 < (rb (10 * u1.toInt + u2.toInt).toNat).toInt ∧ cnt rb u1.toInt 8 = 1) then 1 else (if (rb (10 * u1.toInt + u2.toInt).toNat).toInt = u3.toInt then 3 else -1)))) ∧ ∃ l1 ac1 : Int, (((0 ≤ u1.toInt ∧ u1.toInt < (rb 80).toInt) ∧ (0 ≤ u2.toInt ∧ u2.toInt ≤ 7) ∧ (0 ≤ u3.toInt ∧ u3.toInt ≤ 9) ∧ ¬ (u3.toInt = 0 ∧ 0 < (rb (10 * u1.toInt + u2.toInt).toNat).toInt ∧ cnt rb u1.toInt 8 = 1) ∧ (rb (10 * u1.toInt + u2.toInt).toNat).toInt ≠ u3.toInt) → ((ac = 12 → ac1 = 12) ∧ (ac ≠ 12 → ac1 = ac + 1)) ∧ l1 = ln ∧ XD G τ f K sh qs l1 ac1 hi B (we rb u1.toInt u2.toInt u3) (kp rk rb ac) ri) ∧ (¬ ((0 ≤ u1.toInt ∧ u1.toInt < (rb 80).toInt) ∧ (0 ≤ u2.toInt ∧ u2.toInt ≤ 7) ∧ (0 ≤ u3.toInt ∧ u3.toInt ≤ 9) ∧ ¬ (u3.toInt = 0 ∧ 0 < (rb (10 * u1.toInt + u2.toInt).toNat).toInt ∧ cnt rb u1.toInt 8 = 1) ∧ (rb (10 * u1.toInt + u2.toInt).toNat).toInt ≠ u3.toInt) → XD G τ f K sh qs ln ac hi B rb rk ri))) : mI l yX11_weigh cX11_weigh 5 (.int) rm_s_X11_weighX D G b0 f [.ref (M 0), .int u1, .int u2, .int u3] (fun _ f1 => ∃ τ1, LI G τ1 f1 K sh qs M o) := by
  obtain ⟨⟨t, X, g, m, ng, ho⟩, ln, ac, hi, B, rb, rk, ri, md, rQ, l1, ac1, P1, P2⟩ := h
  obtain ⟨⟨p0, p1, p2, p3, p4, p5⟩, q0_, q1_, q2_, q3_, q4_⟩ := id m
  obtain ⟨ln', ac', hi', rt, ⟨i1, i2, i3⟩, ⟨f1_, f2_, f3_⟩, ⟨k1, k2, k3⟩, ⟨k4, k5, k6, k7⟩, mB⟩ := id md
  subst f1_; subst f2_; subst f3_
  have hb := t.bk9 p2 k5
  obtain ⟨rA, rq, rr, r1_, r2_, r3_⟩ := id rQ
  obtain ⟨rd, hrd⟩ := t.ia p5 (by decide) wf_62
  refine (s_X11_weighX l D G b0 τ f t (M 0) p0 u1 (iv_any _) u2 (iv_any _) u3 (iv_any _) ac' i2 k2 (M 2) p2 q1_ (M 4) p4 q3_ (M 6) rA.2.1 rA.2.2.2 rb k5 rk k7 rr r2_).post (fun r f1 hp => ?_)
  obtain ⟨-, t1, r1, yr, ⟨ac2, w1, w2, w3, w4⟩, ⟨rb1, b1, b2⟩, ⟨rk1, c1, c2⟩, ⟨rr1, d1, d2⟩⟩ := hp
  have rQ1 : RQ G τ f1 K M (-1) := RQ.m rA r1_ r3_ r1 (by decide) d1 d2
  have LB1 : LB G τ f1 K sh qs M o := ⟨t1, X.fr r1 (Ex.rf τ) (by decide), GJ.fr g r1 X.1.2.2.2.2.2.2.2.2.2.2.2 (by decide), m.fr r1 (Ex.rf τ) (by decide), ng.fr r1 p0 (by decide), ho⟩
  by_cases hok : ((0 ≤ u1.toInt ∧ u1.toInt < (rb 80).toInt) ∧ (0 ≤ u2.toInt ∧ u2.toInt ≤ 7) ∧ (0 ≤ u3.toInt ∧ u3.toInt ≤ 9) ∧ ¬ (u3.toInt = 0 ∧ 0 < (rb (10 * u1.toInt + u2.toInt).toNat).toInt ∧ cnt rb u1.toInt 8 = 1) ∧ (rb (10 * u1.toInt + u2.toInt).toNat).toInt ≠ u3.toInt)
  · obtain ⟨Pa, Pl, Px⟩ := P1 hok
    have w5 := w3 hok
    have e1 : ac1 = ac2.toInt := by
      by_cases c : ac'.toInt = 12
      · rw [Pa.1 c, w5.1 c]
      · rw [Pa.2 c, w5.2 c]
    subst e1
    subst Pl
    exact ⟨τ, LI.of LB1 ((Px.fr X r1 (Ex.rf τ) (by decide)).rows (fun k hk => by rw [b2 k hk, if_pos hok]) (fun k hk => by rw [c2 k hk, if_pos hok]) (fun _ _ => rfl)) ⟨ln', ac2, hi', rt, ⟨i1, w2, i3⟩, ⟨rfl, rfl, rfl⟩, ⟨(k1.fk r1 p0 (by decide) (by decide)), w1, k3.fk r1 p0 (by decide) (by decide)⟩, ⟨k4.fr r1 p1 (by decide), b1, k6.fr r1 p3 (by decide), c1⟩, mB⟩ rQ1⟩
  · exact ⟨τ, LI.of LB1 (((P2 hok).fr X r1 (Ex.rf τ) (by decide)).rows (fun k hk => by rw [b2 k hk, if_neg hok]) (fun k hk => by rw [c2 k hk, if_neg hok]) (fun _ _ => rfl)) ⟨ln', ac2, hi', rt, ⟨i1, w2, i3⟩, ⟨rfl, w4 hok, rfl⟩, ⟨(k1.fk r1 p0 (by decide) (by decide)), w1, k3.fk r1 p0 (by decide) (by decide)⟩, ⟨k4.fr r1 p1 (by decide), b1, k6.fr r1 p3 (by decide), c1⟩, mB⟩ rQ1⟩
set_option maxRecDepth 20000 in
theorem lx_45 (l : Launch) (D : va_G) (G : Nat → Nat) (b0 : Nat) {τ : Nat → Nat} {f : hM} {K sh qs M : Nat → Nat} {o : Nat} (h : LI G τ f K sh qs M o) : mI l yX10_undo cX10_undo 1 (.int) rm_s_X10_undoX D G b0 f [.ref (K 0)] (fun _ f1 => ∃ τ1, LIP G τ1 f1 K sh qs M o (fun ln ac hi B rb rk ri => RQ G τ1 f1 K M (-1) ∧ (ac = 0 → XD G τ1 f1 K sh qs ln 0 hi B rb rk ri) ∧ (ac ≠ 0 → XD G τ1 f1 K sh qs ln (ac - 1) hi B (fun k => rk (81 * (ac - 1).toNat + k)) rk ri))) := by
  obtain ⟨t, X, g, m, ng, ho, ln, ac, hi, B, rb, rk, ri, xd, md, rQ⟩ := id h
  obtain ⟨⟨a0, a1, a2, a3, a4, a5, a6, a7, a8, a9, a10, a11⟩, ⟨b0_, b1_, b2_, b3_, b4_, b5_, b6_, b7_, b8_, b9_, b10_⟩, ⟨rf, c1, c2⟩, dd, ⟨e1, e2⟩, e3⟩ := id X
  obtain ⟨⟨p0, p1, p2, p3, p4, p5⟩, q0_, q1_, q2_, q3_, q4_⟩ := id m
  obtain ⟨ln', ac', hi', nx, rt, ⟨i1, i2, i3, i4⟩, ⟨f1_, f2_, f3_⟩, ⟨k1, k2, k3, k4, k5⟩, hB, now, kept, old⟩ := id xd
  subst f1_; subst f2_; subst f3_
  obtain ⟨sz, ρ, z0, z1, z2, z3, z4, z5⟩ := id now
  have j12 : ((nx.toInt + 11) % 12).toNat < 12 := by
    have := i4.1
    have := i4.2
    omega
  obtain ⟨d1, d2, d3⟩ := dd _ j12
  obtain ⟨sa, hsa, ksa⟩ := t.fint d1 (by decide) wf_18 1 rfl
  obtain ⟨ra, kra⟩ := ro_get t d2
  obtain ⟨A1, A2, A3⟩ := smallA_ok X
  refine (s_X10_undoX l D G b0 τ f t (K 0) a0 (sh ((nx.toInt + 11) % 12).toNat) d1 (K 4) a4 b1_ ac' i2 k2 nx i4 k4 (K 6) a6 b6_ (K 10) a10 b8_ (K 7) a7 b9_ sz z0 z1 (qs ((nx.toInt + 11) % 12).toNat) d2 d3 sa hsa ksa ρ z2 rf c1 ra kra (c2 _ j12) (e2 _ j12).1).post (fun r f1 hp => ?_)
  obtain ⟨-, t1, r1, yr, ⟨nx1, y1, y2, y3, y4⟩, ⟨ac1, w1, w2, w3, w4⟩, ⟨szn, v1, v2, v3, v4⟩, ⟨rn1, n1, n2⟩, fx⟩ := hp
  have key := XD.undo (S := [4, 12, 15, 12001, 12006, 15002]) (A := [K 7, K 6, K 4]) X i1 i2 i3 i4 k1 k3 k5 hB z1 z2 now kept old ksa kra r1 fx (by decide) (by decide) (by decide) A1 A2 A3 y1 y2 ⟨y3, y4⟩ w1 w2 ⟨w3, w4⟩ v1 ⟨v3, v4⟩ n1 n2
  exact ⟨τ, LB.x ⟨t, X, g, m, ng, ho⟩ t1 r1 (Ex.rf τ) (by decide) (by decide) (by decide) (by decide), ln'.toInt, ac'.toInt, hi'.toInt, B, rb, rk, ri, md.fr m r1 (by decide), rQ.fr r1 (Ex.rf τ) (by decide), key⟩
set_option maxRecDepth 20000 in
theorem lm_45 (l : Launch) (D : va_G) (G : Nat → Nat) (b0 : Nat) {τ : Nat → Nat} {f : hM} {K sh qs M : Nat → Nat} {o : Nat} (h : LIP G τ f K sh qs M o (fun ln ac hi B rb rk ri => RQ G τ f K M (-1) ∧ (ac = 0 → XD G τ f K sh qs ln 0 hi B rb rk ri) ∧ (ac ≠ 0 → XD G τ f K sh qs ln (ac - 1) hi B (fun k => rk (81 * (ac - 1).toNat + k)) rk ri))) : mI l yX11_undo cX11_undo 2 (.int) rm_s_X11_undoX D G b0 f [.ref (M 0)] (fun _ f1 => ∃ τ1, LI G τ1 f1 K sh qs M o) := by
  obtain ⟨⟨t, X, g, m, ng, ho⟩, ln, ac, hi, B, rb, rk, ri, md, rQ, P1, P2⟩ := h
  obtain ⟨⟨p0, p1, p2, p3, p4, p5⟩, q0_, q1_, q2_, q3_, q4_⟩ := id m
  obtain ⟨ln', ac', hi', rt, ⟨i1, i2, i3⟩, ⟨f1_, f2_, f3_⟩, ⟨k1, k2, k3⟩, ⟨k4, k5, k6, k7⟩, mB⟩ := id md
  subst f1_; subst f2_; subst f3_
  have hb := t.bk9 p2 k5
  have hr0 : ac'.toInt ≠ 0 → (rk (81 * (ac'.toInt - 1) + 80).toNat).toInt ≤ 8 := fun hz => by
    obtain ⟨-, -, -, -, -, -, -, -, -, ⟨sz, ρ, z0, z1, z2, z3, z4, z5⟩, -⟩ := P2 hz
    have e : sz.toInt = (rk (81 * (ac'.toInt - 1).toNat + 80)).toInt := z3
    have := i2.1
    rw [show (81 * (ac'.toInt - 1) + 80).toNat = 81 * (ac'.toInt - 1).toNat + 80 by omega, ← e]
    exact z0.2
  refine (s_X11_undoX l D G b0 τ f t (M 0) p0 ac' i2 k2 (M 2) p2 q1_ (M 4) p4 q3_ rb k5 rk k7 hr0).post (fun r f1 hp => ?_)
  obtain ⟨-, t1, r1, yr, ⟨ac2, w1, w2, w3, w4⟩, ⟨rb1, b1, b2⟩⟩ := hp
  have LB1 : LB G τ f1 K sh qs M o := ⟨t1, X.fr r1 (Ex.rf τ) (by decide), GJ.fr g r1 X.1.2.2.2.2.2.2.2.2.2.2.2 (by decide), m.fr r1 (Ex.rf τ) (by decide), ng.fr r1 p0 (by decide), ho⟩
  by_cases hok : ac'.toInt = 0
  · exact ⟨τ, LI.of LB1 (((P1 hok).fr X r1 (Ex.rf τ) (by decide)).rows (fun k hk => by rw [b2 k hk, if_pos hok]) (fun _ _ => rfl) (fun _ _ => rfl)) ⟨ln', ac2, hi', rt, ⟨i1, w2, i3⟩, ⟨rfl, w3 hok, rfl⟩, ⟨k1.fk r1 p0 (by decide) (by decide), w1, k3.fk r1 p0 (by decide) (by decide)⟩, ⟨k4.fr r1 p1 (by decide), b1, k6.fr r1 p3 (by decide), k7.fr r1 p4 (by decide)⟩, mB⟩ (rQ.fr r1 (Ex.rf τ) (by decide))⟩
  · exact ⟨τ, LI.of LB1 (((P2 hok).fr X r1 (Ex.rf τ) (by decide)).rows (fun k hk => by
      have := i2.1
      rw [b2 k hk, if_neg hok, show (81 * (ac'.toInt - 1) + (k : Int)).toNat = 81 * (ac'.toInt - 1).toNat + k by omega]) (fun _ _ => rfl) (fun _ _ => rfl)) ⟨ln', ac2, hi', rt, ⟨i1, w2, i3⟩, ⟨rfl, w4 hok, rfl⟩, ⟨k1.fk r1 p0 (by decide) (by decide), w1, k3.fk r1 p0 (by decide) (by decide)⟩, ⟨k4.fr r1 p1 (by decide), b1, k6.fr r1 p3 (by decide), k7.fr r1 p4 (by decide)⟩, mB⟩ (rQ.fr r1 (Ex.rf τ) (by decide))⟩
set_option maxRecDepth 20000 in
theorem lx_46 (l : Launch) (D : va_G) (G : Nat → Nat) (b0 : Nat) {τ : Nat → Nat} {f : hM} {K sh qs M : Nat → Nat} {o : Nat} (h : LI G τ f K sh qs M o) : mI l yX10_image cX10_image 1 (.int) rm_s_X10_imageX D G b0 f [.ref (K 0)] (fun _ f1 => ∃ τ1, LIP G τ1 f1 K sh qs M o (fun ln ac hi B rb rk ri => RQ G τ1 f1 K M (-1) ∧ XD G τ1 f1 K sh qs ln ac 1 B rb rk rb)) := by
  obtain ⟨t, X, g, m, ng, ho, ln, ac, hi, B, rb, rk, ri, xd, md, rQ⟩ := id h
  obtain ⟨⟨a0, a1, a2, a3, a4, a5, a6, a7, a8, a9, a10, a11⟩, ⟨b0_, b1_, b2_, b3_, b4_, b5_, b6_, b7_, b8_, b9_, b10_⟩, ⟨rf, c1, c2⟩, dd, ⟨e1, e2⟩, e3⟩ := id X
  obtain ⟨⟨p0, p1, p2, p3, p4, p5⟩, q0_, q1_, q2_, q3_, q4_⟩ := id m
  obtain ⟨ln', ac', hi', nx, rt, ⟨i1, i2, i3, i4⟩, ⟨f1_, f2_, f3_⟩, ⟨k1, k2, k3, k4, k5⟩, hB, now, kept, old⟩ := id xd
  subst f1_; subst f2_; subst f3_
  obtain ⟨sz, ρ, z0, z1, z2, z3, z4, z5⟩ := id now
  obtain ⟨A1, A2, A3⟩ := imgA_ok X
  obtain ⟨κ, kκ⟩ := ro_get t a9
  refine (s_X10_imageX l D G b0 τ f t (K 0) a0 (K 4) a4 b1_ (K 6) a6 b6_ (K 7) a7 b9_ sz z0 z1 hi' i3 k3 (K 8) a8 b7_ (K 9) a9 b10_ ρ z2 κ kκ e1).post (fun r f1 hp => ?_)
  obtain ⟨-, t1, r1, yr, ⟨hi1, y1, -, y2⟩, ⟨szk, v1, -, v2⟩, ⟨rk1, n1, n2⟩, fx⟩ := hp
  have key := XD.image (S := [4, 12, 16, 12005, 16002]) (A := [K 9, K 8, K 4]) X i1 i2 i4 k1 k2 k4 k5 hB z1 z2 now old r1 fx (by decide) (by decide) (by decide) (by decide) A1 A2 A3 y1 y2 v1 v2 n1 n2
  exact ⟨τ, LB.x ⟨t, X, g, m, ng, ho⟩ t1 r1 (Ex.rf τ) (by decide) (by decide) (by decide) (by decide), ln'.toInt, ac'.toInt, hi'.toInt, B, rb, rk, ri, md.fr m r1 (by decide), rQ.fr r1 (Ex.rf τ) (by decide), key⟩
set_option maxRecDepth 20000 in
theorem lm_46 (l : Launch) (D : va_G) (G : Nat → Nat) (b0 : Nat) {τ : Nat → Nat} {f : hM} {K sh qs M : Nat → Nat} {o : Nat} (h : LIP G τ f K sh qs M o (fun ln ac hi B rb rk ri => RQ G τ f K M (-1) ∧ XD G τ f K sh qs ln ac 1 B rb rk rb)) : mI l yX11_image cX11_image 2 (.int) rm_s_X11_imageX D G b0 f [.ref (M 0)] (fun _ f1 => ∃ τ1, LI G τ1 f1 K sh qs M o) := by
  obtain ⟨⟨t, X, g, m, ng, ho⟩, ln, ac, hi, B, rb, rk, ri, md, rQ, P1⟩ := h
  obtain ⟨⟨p0, p1, p2, p3, p4, p5⟩, q0_, q1_, q2_, q3_, q4_⟩ := id m
  obtain ⟨ln', ac', hi', rt, ⟨i1, i2, i3⟩, ⟨f1_, f2_, f3_⟩, ⟨k1, k2, k3⟩, ⟨k4, k5, k6, k7⟩, mB⟩ := id md
  subst f1_; subst f2_; subst f3_
  have hb := t.bk9 p2 k5
  refine (s_X11_imageX l D G b0 τ f t (M 0) p0 hi' i3 k3 (M 2) p2 q1_ (M 3) p3 q2_ rb k5 ri k6).post (fun r f1 hp => ?_)
  obtain ⟨-, t1, r1, yr, ⟨hi1, w1, -, w2⟩, ⟨ri1, b1, b2⟩⟩ := hp
  have LB1 : LB G τ f1 K sh qs M o := ⟨t1, X.fr r1 (Ex.rf τ) (by decide), GJ.fr g r1 X.1.2.2.2.2.2.2.2.2.2.2.2 (by decide), m.fr r1 (Ex.rf τ) (by decide), ng.fr r1 p0 (by decide), ho⟩
  exact ⟨τ, LI.of LB1 ((P1.fr X r1 (Ex.rf τ) (by decide)).rows (fun _ _ => rfl) (fun _ _ => rfl) (fun k hk => (b2 k hk).symm)) ⟨ln', ac', hi1, rt, ⟨i1, i2, ⟨by omega, by omega⟩⟩, ⟨rfl, rfl, w2⟩, ⟨k1.fk r1 p0 (by decide) (by decide), k2.fk r1 p0 (by decide) (by decide), w1⟩, ⟨k4.fr r1 p1 (by decide), k5.fr r1 p2 (by decide), b1, k7.fr r1 p4 (by decide)⟩, mB⟩ (rQ.fr r1 (Ex.rf τ) (by decide))⟩
set_option maxRecDepth 20000 in
theorem lx_47 (l : Launch) (D : va_G) (G : Nat → Nat) (b0 : Nat) {τ : Nat → Nat} {f : hM} {K sh qs M : Nat → Nat} {o : Nat} (h : LI G τ f K sh qs M o) : mI l yX10_back cX10_back 1 (.int) rm_s_X10_backX D G b0 f [.ref (K 0)] (fun _ f1 => ∃ τ1, LIP G τ1 f1 K sh qs M o (fun ln ac hi B rb rk ri => RQ G τ1 f1 K M (-1) ∧ (hi = 0 → XD G τ1 f1 K sh qs ln ac hi B rb rk ri) ∧ (hi ≠ 0 → XD G τ1 f1 K sh qs ln 0 hi B ri rk ri))) := by
  obtain ⟨t, X, g, m, ng, ho, ln, ac, hi, B, rb, rk, ri, xd, md, rQ⟩ := id h
  obtain ⟨⟨a0, a1, a2, a3, a4, a5, a6, a7, a8, a9, a10, a11⟩, ⟨b0_, b1_, b2_, b3_, b4_, b5_, b6_, b7_, b8_, b9_, b10_⟩, ⟨rf, c1, c2⟩, dd, ⟨e1, e2⟩, e3⟩ := id X
  obtain ⟨⟨p0, p1, p2, p3, p4, p5⟩, q0_, q1_, q2_, q3_, q4_⟩ := id m
  obtain ⟨ln', ac', hi', nx, rt, ⟨i1, i2, i3, i4⟩, ⟨f1_, f2_, f3_⟩, ⟨k1, k2, k3, k4, k5⟩, hB, now, kept, old⟩ := id xd
  subst f1_; subst f2_; subst f3_
  obtain ⟨sz, ρ, z0, z1, z2, z3, z4, z5⟩ := id now
  obtain ⟨A1, A2, A3⟩ := smallA_ok X
  obtain ⟨κ, kκ⟩ := ro_get t a9
  obtain ⟨sy, hsy, ksy⟩ := t.fint a8 (by decide) wf_16 1 rfl
  refine (s_X10_backX l D G b0 τ f t (K 0) a0 (K 4) a4 b1_ ac' i2 k2 (K 6) a6 b6_ (K 7) a7 b9_ sz z0 z1 hi' i3 k3 (K 8) a8 b7_ (K 9) a9 b10_ sy hsy ksy ρ z2 κ kκ e1.symm).post (fun r f1 hp => ?_)
  obtain ⟨-, t1, r1, yr, ⟨ac1, w1, w2, w3, w4⟩, ⟨szn, v1, v2, v3, v4⟩, ⟨rn1, n1, n2⟩, fx⟩ := hp
  have key := XD.back (S := [4, 12, 15, 12001, 15002]) (A := [K 7, K 6, K 4]) X i1 i3 i4 k1 k3 k4 k5 hB z1 z2 now ksy kκ kept old r1 fx (by decide) (by decide) (by decide) (by decide) A1 A2 A3 w1 w2 ⟨w3, w4⟩ v1 ⟨v3, v4⟩ n1 n2
  exact ⟨τ, LB.x ⟨t, X, g, m, ng, ho⟩ t1 r1 (Ex.rf τ) (by decide) (by decide) (by decide) (by decide), ln'.toInt, ac'.toInt, hi'.toInt, B, rb, rk, ri, md.fr m r1 (by decide), rQ.fr r1 (Ex.rf τ) (by decide), key⟩
set_option maxRecDepth 20000 in
theorem lm_47 (l : Launch) (D : va_G) (G : Nat → Nat) (b0 : Nat) {τ : Nat → Nat} {f : hM} {K sh qs M : Nat → Nat} {o : Nat} (h : LIP G τ f K sh qs M o (fun ln ac hi B rb rk ri => RQ G τ f K M (-1) ∧ (hi = 0 → XD G τ f K sh qs ln ac hi B rb rk ri) ∧ (hi ≠ 0 → XD G τ f K sh qs ln 0 hi B ri rk ri))) : mI l yX11_back cX11_back 2 (.int) rm_s_X11_backX D G b0 f [.ref (M 0)] (fun _ f1 => ∃ τ1, LI G τ1 f1 K sh qs M o) := by
  obtain ⟨⟨t, X, g, m, ng, ho⟩, ln, ac, hi, B, rb, rk, ri, md, rQ, P1, P2⟩ := h
  obtain ⟨⟨p0, p1, p2, p3, p4, p5⟩, q0_, q1_, q2_, q3_, q4_⟩ := id m
  obtain ⟨ln', ac', hi', rt, ⟨i1, i2, i3⟩, ⟨f1_, f2_, f3_⟩, ⟨k1, k2, k3⟩, ⟨k4, k5, k6, k7⟩, mB⟩ := id md
  subst f1_; subst f2_; subst f3_
  have hb := t.bk9 p2 k5
  have hr0 : hi'.toInt ≠ 0 → (ri 80).toInt ≤ 8 := fun hz => by
    obtain ⟨-, -, -, -, -, -, -, -, -, ⟨sz, ρ, z0, z1, z2, z3, z4, z5⟩, -⟩ := P2 hz
    rw [← z3]
    exact z0.2
  refine (s_X11_backX l D G b0 τ f t (M 0) p0 ac' i2 k2 hi' i3 k3 (M 2) p2 q1_ (M 3) p3 q2_ rb k5 ri k6 hr0).post (fun r f1 hp => ?_)
  obtain ⟨-, t1, r1, yr, ⟨ac2, w1, w2, w3, w4⟩, ⟨rb1, b1, b2⟩⟩ := hp
  have LB1 : LB G τ f1 K sh qs M o := ⟨t1, X.fr r1 (Ex.rf τ) (by decide), GJ.fr g r1 X.1.2.2.2.2.2.2.2.2.2.2.2 (by decide), m.fr r1 (Ex.rf τ) (by decide), ng.fr r1 p0 (by decide), ho⟩
  by_cases hok : hi'.toInt = 0
  · exact ⟨τ, LI.of LB1 (((P1 hok).fr X r1 (Ex.rf τ) (by decide)).rows (fun k hk => by rw [b2 k hk, if_pos hok]) (fun _ _ => rfl) (fun _ _ => rfl)) ⟨ln', ac2, hi', rt, ⟨i1, w2, i3⟩, ⟨rfl, w3 hok, rfl⟩, ⟨k1.fk r1 p0 (by decide) (by decide), w1, k3.fk r1 p0 (by decide) (by decide)⟩, ⟨k4.fr r1 p1 (by decide), b1, k6.fr r1 p3 (by decide), k7.fr r1 p4 (by decide)⟩, mB⟩ (rQ.fr r1 (Ex.rf τ) (by decide))⟩
  · exact ⟨τ, LI.of LB1 (((P2 hok).fr X r1 (Ex.rf τ) (by decide)).rows (fun k hk => by rw [b2 k hk, if_neg hok]) (fun _ _ => rfl) (fun _ _ => rfl)) ⟨ln', ac2, hi', rt, ⟨i1, w2, i3⟩, ⟨rfl, w4 hok, rfl⟩, ⟨k1.fk r1 p0 (by decide) (by decide), w1, k3.fk r1 p0 (by decide) (by decide)⟩, ⟨k4.fr r1 p1 (by decide), b1, k6.fr r1 p3 (by decide), k7.fr r1 p4 (by decide)⟩, mB⟩ (rQ.fr r1 (Ex.rf τ) (by decide))⟩
set_option maxRecDepth 20000 in
theorem lx_0 (l : Launch) (D : va_G) (G : Nat → Nat) (b0 : Nat) {τ : Nat → Nat} {f : hM} {K sh qs M : Nat → Nat} {o : Nat} (h : LI G τ f K sh qs M o) (u1 : Int32) (u2 : Int32) (u3 : Int32) (u4 : Int32) (u5 : Int32) : mI l yX10_feed cX10_feed 7 (.int) rm_s_X10_feedX D G b0 f [.ref (K 0), .int u1, .int u2, .int u3, .int u4, .int u5] (fun _ f1 => ∃ τ1, LIP G τ1 f1 K sh qs M o (fun ln ac hi B rb rk ri => RQ G τ1 f1 K M (-1) ∧ (ln + (nb u1 + nb u2 + nb u3 + nb u4 + nb u5) ≤ 200 → XD G τ1 f1 K sh qs (ln + (nb u1 + nb u2 + nb u3 + nb u4 + nb u5)) ac hi (fed ln B u1 u2 u3 u4 u5) rb rk ri) ∧ (¬ (ln + (nb u1 + nb u2 + nb u3 + nb u4 + nb u5) ≤ 200) → XD G τ1 f1 K sh qs ln ac hi B rb rk ri))) := by
  obtain ⟨t, X, g, m, ng, ho, ln, ac, hi, B, rb, rk, ri, xd, md, rQ⟩ := id h
  obtain ⟨⟨a0, a1, a2, a3, a4, a5, a6, a7, a8, a9, a10, a11⟩, ⟨b0_, b1_, b2_, b3_, b4_, b5_, b6_, b7_, b8_, b9_, b10_⟩, ⟨rf, c1, c2⟩, dd, ⟨e1, e2⟩, e3⟩ := id X
  obtain ⟨⟨p0, p1, p2, p3, p4, p5⟩, q0_, q1_, q2_, q3_, q4_⟩ := id m
  obtain ⟨ln', ac', hi', nx, rt, ⟨i1, i2, i3, i4⟩, ⟨f1_, f2_, f3_⟩, ⟨k1, k2, k3, k4, k5⟩, hB, now, kept, old⟩ := id xd
  subst f1_; subst f2_; subst f3_
  refine (s_X10_feedX l D G b0 τ f t (K 0) a0 u1 (iv_any _) u2 (iv_any _) u3 (iv_any _) u4 (iv_any _) u5 (iv_any _) (K 1) a1 b0_ ln' i1 k1 (K 2) a2 b4_ rt k5).post (fun r f1 hp => ?_)
  obtain ⟨-, t1, r1, yr, ⟨ln1, w1, w2, w3, w4⟩, ⟨rt1, n1, n2⟩, fx⟩ := hp
  refine ⟨τ, LB.x ⟨t, X, g, m, ng, ho⟩ t1 r1 (Ex.rf τ) (by decide) (by decide) (by decide) (by decide), ln'.toInt, ac'.toInt, hi'.toInt, B, rb, rk, ri, md.fr m r1 (by decide), rQ.fr r1 (Ex.rf τ) (by decide), fun hok => ?_, fun hok => ?_⟩
  · have q := XD.tape (B1 := (fed ln'.toInt B u1 u2 u3 u4 u5)) xd X r1 (by decide) w1 w2 n1 (fun k hk => (n2 B hB k).1 hok (by rw [← w3 hok]; exact hk))
    rw [w3 hok] at q
    exact q
  · have q := XD.tape (B1 := B) xd X r1 (by decide) w1 w2 n1 (fun k hk => by rw [(n2 B hB k).2 hok]; exact hB k (by rw [← w4 hok]; exact hk))
    rw [w4 hok] at q
    exact q
set_option maxRecDepth 20000 in
theorem lm_0 (l : Launch) (D : va_G) (G : Nat → Nat) (b0 : Nat) {τ : Nat → Nat} {f : hM} {K sh qs M : Nat → Nat} {o : Nat} (u1 : Int32) (u2 : Int32) (u3 : Int32) (u4 : Int32) (u5 : Int32) (h : LIP G τ f K sh qs M o (fun ln ac hi B rb rk ri => RQ G τ f K M (-1) ∧ (ln + (nb u1 + nb u2 + nb u3 + nb u4 + nb u5) ≤ 200 → XD G τ f K sh qs (ln + (nb u1 + nb u2 + nb u3 + nb u4 + nb u5)) ac hi (fed ln B u1 u2 u3 u4 u5) rb rk ri) ∧ (¬ (ln + (nb u1 + nb u2 + nb u3 + nb u4 + nb u5) ≤ 200) → XD G τ f K sh qs ln ac hi B rb rk ri))) : mI l yX11_feed cX11_feed 6 (.int) rm_s_X11_feedX D G b0 f [.ref (M 0), .int u1, .int u2, .int u3, .int u4, .int u5] (fun _ f1 => ∃ τ1, LI G τ1 f1 K sh qs M o) := by
  obtain ⟨⟨t, X, g, m, ng, ho⟩, ln, ac, hi, B, rb, rk, ri, md, rQ, P1, P2⟩ := h
  obtain ⟨⟨p0, p1, p2, p3, p4, p5⟩, q0_, q1_, q2_, q3_, q4_⟩ := id m
  obtain ⟨ln', ac', hi', rt, ⟨i1, i2, i3⟩, ⟨f1_, f2_, f3_⟩, ⟨k1, k2, k3⟩, ⟨k4, k5, k6, k7⟩, mB⟩ := id md
  subst f1_; subst f2_; subst f3_
  have hb := t.bk9 p2 k5
  refine (s_X11_feedX l D G b0 τ f t (M 0) p0 u1 (iv_any _) u2 (iv_any _) u3 (iv_any _) u4 (iv_any _) u5 (iv_any _) ln' i1 k1 (M 1) p1 q0_ rt k4).post (fun r f1 hp => ?_)
  obtain ⟨-, t1, r1, yr, ⟨ln1, w1, w2, w3, w4⟩, ⟨rt1, n1, n2⟩⟩ := hp
  have LB1 : LB G τ f1 K sh qs M o := ⟨t1, X.fr r1 (Ex.rf τ) (by decide), GJ.fr g r1 X.1.2.2.2.2.2.2.2.2.2.2.2 (by decide), m.fr r1 (Ex.rf τ) (by decide), ng.fr r1 p0 (by decide), ho⟩
  have n3 := n2 B (fun k hk => (mB k hk).1)
  by_cases hok : ln'.toInt + (nb u1 + nb u2 + nb u3 + nb u4 + nb u5) ≤ 200
  · refine ⟨τ, LI.of LB1 ((P1 hok).fr X r1 (Ex.rf τ) (by decide)) ⟨ln1, ac', hi', rt1, ⟨w2, i2, i3⟩, ⟨w3 hok, rfl, rfl⟩, ⟨w1, k2.fk r1 p0 (by decide) (by decide), k3.fk r1 p0 (by decide) (by decide)⟩, ⟨n1, k5.fr r1 p2 (by decide), k6.fr r1 p3 (by decide), k7.fr r1 p4 (by decide)⟩, fun k hk => ?_⟩ (rQ.fr r1 (Ex.rf τ) (by decide))⟩
    refine ⟨(n3 k).1 hok hk, ?_⟩
    refine a4_ln _ u5 (a4_ln _ u4 (a4_ln _ u3 (a4_ln _ u2 (a4_ln _ u1 (fun j hj => (mB j hj).2))))) k ?_
    rw [a4_fst, a4_fst, a4_fst, a4_fst, a4_fst]
    omega
  · exact ⟨τ, LI.of LB1 ((P2 hok).fr X r1 (Ex.rf τ) (by decide)) ⟨ln1, ac', hi', rt1, ⟨w2, i2, i3⟩, ⟨w4 hok, rfl, rfl⟩, ⟨w1, k2.fk r1 p0 (by decide) (by decide), k3.fk r1 p0 (by decide) (by decide)⟩, ⟨n1, k5.fr r1 p2 (by decide), k6.fr r1 p3 (by decide), k7.fr r1 p4 (by decide)⟩, fun k hk => by rw [(n3 k).2 hok]; exact mB k hk⟩ (rQ.fr r1 (Ex.rf τ) (by decide))⟩
set_option maxRecDepth 20000 in
theorem lx_1 (l : Launch) (D : va_G) (G : Nat → Nat) (b0 : Nat) {τ : Nat → Nat} {f : hM} {K sh qs M : Nat → Nat} {o : Nat} (h : LI G τ f K sh qs M o) (u1 : Int32) : mI l yX10_end cX10_end 2 (.boolean) rm_s_X10_endX D G b0 f [.ref (K 0), .int u1] (fun _ f1 => ∃ τ1, LIP G τ1 f1 K sh qs M o (fun ln ac hi B rb rk ri => RQ G τ1 f1 K M (-1) ∧ (0 ≤ u1.toInt ∧ u1.toInt ≤ ln → XD G τ1 f1 K sh qs u1.toInt ac hi B rb rk ri) ∧ (¬ (0 ≤ u1.toInt ∧ u1.toInt ≤ ln) → XD G τ1 f1 K sh qs ln ac hi B rb rk ri))) := by
  obtain ⟨t, X, g, m, ng, ho, ln, ac, hi, B, rb, rk, ri, xd, md, rQ⟩ := id h
  obtain ⟨⟨a0, a1, a2, a3, a4, a5, a6, a7, a8, a9, a10, a11⟩, ⟨b0_, b1_, b2_, b3_, b4_, b5_, b6_, b7_, b8_, b9_, b10_⟩, ⟨rf, c1, c2⟩, dd, ⟨e1, e2⟩, e3⟩ := id X
  obtain ⟨⟨p0, p1, p2, p3, p4, p5⟩, q0_, q1_, q2_, q3_, q4_⟩ := id m
  obtain ⟨ln', ac', hi', nx, rt, ⟨i1, i2, i3, i4⟩, ⟨f1_, f2_, f3_⟩, ⟨k1, k2, k3, k4, k5⟩, hB, now, kept, old⟩ := id xd
  subst f1_; subst f2_; subst f3_
  refine (s_X10_endX l D G b0 τ f t (K 0) a0 u1 (iv_any _) (K 1) a1 b0_ ln' i1 k1).post (fun r f1 hp => ?_)
  obtain ⟨-, t1, r1, yr, ⟨ln1, w1, w2, w3, w4⟩, fx⟩ := hp
  refine ⟨τ, LB.x ⟨t, X, g, m, ng, ho⟩ t1 r1 (Ex.rf τ) (by decide) (by decide) (by decide) (by decide), ln'.toInt, ac'.toInt, hi'.toInt, B, rb, rk, ri, md.fr m r1 (by decide), rQ.fr r1 (Ex.rf τ) (by decide), fun hok => ?_, fun hok => ?_⟩
  · have q := XD.tape (B1 := B) xd X r1 (by decide) w1 w2 (k5.fr r1 a2 (by decide)) (fun k hk => hB k (by have := w3 hok; omega))
    rw [w3 hok] at q
    exact q
  · have q := XD.tape (B1 := B) xd X r1 (by decide) w1 w2 (k5.fr r1 a2 (by decide)) (fun k hk => hB k (by have := w4 hok; omega))
    rw [w4 hok] at q
    exact q
set_option maxRecDepth 20000 in
theorem lm_1 (l : Launch) (D : va_G) (G : Nat → Nat) (b0 : Nat) {τ : Nat → Nat} {f : hM} {K sh qs M : Nat → Nat} {o : Nat} (u1 : Int32) (h : LIP G τ f K sh qs M o (fun ln ac hi B rb rk ri => RQ G τ f K M (-1) ∧ (0 ≤ u1.toInt ∧ u1.toInt ≤ ln → XD G τ f K sh qs u1.toInt ac hi B rb rk ri) ∧ (¬ (0 ≤ u1.toInt ∧ u1.toInt ≤ ln) → XD G τ f K sh qs ln ac hi B rb rk ri))) : mI l yX11_end cX11_end 2 (.boolean) rm_s_X11_endX D G b0 f [.ref (M 0), .int u1] (fun _ f1 => ∃ τ1, LI G τ1 f1 K sh qs M o) := by
  obtain ⟨⟨t, X, g, m, ng, ho⟩, ln, ac, hi, B, rb, rk, ri, md, rQ, P1, P2⟩ := h
  obtain ⟨⟨p0, p1, p2, p3, p4, p5⟩, q0_, q1_, q2_, q3_, q4_⟩ := id m
  obtain ⟨ln', ac', hi', rt, ⟨i1, i2, i3⟩, ⟨f1_, f2_, f3_⟩, ⟨k1, k2, k3⟩, ⟨k4, k5, k6, k7⟩, mB⟩ := id md
  subst f1_; subst f2_; subst f3_
  have hb := t.bk9 p2 k5
  refine (s_X11_endX l D G b0 τ f t (M 0) p0 u1 (iv_any _) ln' i1 k1).post (fun r f1 hp => ?_)
  obtain ⟨-, t1, r1, yr, ⟨ln1, w1, w2, w3, w4⟩⟩ := hp
  have LB1 : LB G τ f1 K sh qs M o := ⟨t1, X.fr r1 (Ex.rf τ) (by decide), GJ.fr g r1 X.1.2.2.2.2.2.2.2.2.2.2.2 (by decide), m.fr r1 (Ex.rf τ) (by decide), ng.fr r1 p0 (by decide), ho⟩
  by_cases hok : 0 ≤ u1.toInt ∧ u1.toInt ≤ ln'.toInt
  · exact ⟨τ, LI.of LB1 ((P1 hok).fr X r1 (Ex.rf τ) (by decide)) ⟨ln1, ac', hi', rt, ⟨w2, i2, i3⟩, ⟨w3 hok, rfl, rfl⟩, ⟨w1, k2.fk r1 p0 (by decide) (by decide), k3.fk r1 p0 (by decide) (by decide)⟩, ⟨k4.fr r1 p1 (by decide), k5.fr r1 p2 (by decide), k6.fr r1 p3 (by decide), k7.fr r1 p4 (by decide)⟩, fun k hk => mB k (by omega)⟩ (rQ.fr r1 (Ex.rf τ) (by decide))⟩
  · exact ⟨τ, LI.of LB1 ((P2 hok).fr X r1 (Ex.rf τ) (by decide)) ⟨ln1, ac', hi', rt, ⟨w2, i2, i3⟩, ⟨w4 hok, rfl, rfl⟩, ⟨w1, k2.fk r1 p0 (by decide) (by decide), k3.fk r1 p0 (by decide) (by decide)⟩, ⟨k4.fr r1 p1 (by decide), k5.fr r1 p2 (by decide), k6.fr r1 p3 (by decide), k7.fr r1 p4 (by decide)⟩, fun k hk => mB k (by omega)⟩ (rQ.fr r1 (Ex.rf τ) (by decide))⟩
set_option maxRecDepth 20000 in
theorem lx_12 (l : Launch) (D : va_G) (G : Nat → Nat) (b0 : Nat) {τ : Nat → Nat} {f : hM} {K sh qs M : Nat → Nat} {o : Nat} (h : LI G τ f K sh qs M o) (u1 : Int32) (u2 : Int32) (u3 : Int32) (u4 : Int32) (u5 : Int32) : mI l yX10_at cX10_at 7 (.int) rm_s_X10_atX D G b0 f [.ref (K 0), .int u1, .int u2, .int u3, .int u4, .int u5] (fun r f1 => ∃ τ1, LIP G τ1 f1 K sh qs M o (fun ln ac hi B rb rk ri => RQ G τ1 f1 K M (-1) ∧ XD G τ1 f1 K sh qs ln ac hi B rb rk ri ∧ (((0 ≤ u1.toInt ∧ u1.toInt ≤ 2) ∧ (0 ≤ u2.toInt ∧ u2.toInt < (rb 80).toInt) ∧ (0 ≤ u3.toInt ∧ u3.toInt ≤ 60) ∧ (-70 ≤ u4.toInt ∧ u4.toInt ≤ 70) ∧ -70 ≤ u5.toInt ∧ u5.toInt ≤ 70) → r.toInt = (Ag rb u2.toInt u1.toInt 1 u3.toInt.toNat u4.toInt u5.toInt).toInt) ∧ (¬ ((0 ≤ u1.toInt ∧ u1.toInt ≤ 2) ∧ (0 ≤ u2.toInt ∧ u2.toInt < (rb 80).toInt) ∧ (0 ≤ u3.toInt ∧ u3.toInt ≤ 60) ∧ (-70 ≤ u4.toInt ∧ u4.toInt ≤ 70) ∧ -70 ≤ u5.toInt ∧ u5.toInt ≤ 70) → r.toInt = -1))) := by
  obtain ⟨t, X, g, m, ng, ho, ln, ac, hi, B, rb, rk, ri, xd, md, rQ⟩ := id h
  obtain ⟨⟨a0, a1, a2, a3, a4, a5, a6, a7, a8, a9, a10, a11⟩, ⟨b0_, b1_, b2_, b3_, b4_, b5_, b6_, b7_, b8_, b9_, b10_⟩, ⟨rf, c1, c2⟩, dd, ⟨e1, e2⟩, e3⟩ := id X
  obtain ⟨⟨p0, p1, p2, p3, p4, p5⟩, q0_, q1_, q2_, q3_, q4_⟩ := id m
  obtain ⟨ln', ac', hi', nx, rt, ⟨i1, i2, i3, i4⟩, ⟨f1_, f2_, f3_⟩, ⟨k1, k2, k3, k4, k5⟩, hB, now, kept, old⟩ := id xd
  subst f1_; subst f2_; subst f3_
  have mk5 : atp f (M 2) (eqc (.inl (G 1, 81, .inl rb))) := by
    obtain ⟨_, _, _, _, -, -, -, ⟨-, q, -, -⟩, -⟩ := md
    exact q
  obtain ⟨sz, ρ, z0, z1, z2, z3, z4, z5⟩ := id now
  have hb := t.bk9 p2 mk5
  refine (s_X10_atX l D G b0 τ f t (K 0) a0 u1 (iv_any _) u2 (iv_any _) u3 (iv_any _) u4 (iv_any _) u5 (iv_any _) (K 4) a4 b1_ (K 6) a6 b6_ (K 7) a7 b9_ sz z0 z1 (K 11) (K 12) (K 13) a11 b2_ g ρ z2 rb hb.1 z4).post (fun r f1 hp => ?_)
  obtain ⟨-, t1, r1, yr, g1⟩ := hp
  refine ⟨τ, ⟨t1, X.fr r1 (Ex.rf τ) (by decide), g1, m.fr r1 (Ex.rf τ) (by decide), (ng.fr r1 p0 (by decide)).ex (Ex.rf τ), Ex.at (Ex.rf τ) ho (by decide)⟩, ln'.toInt, ac'.toInt, hi'.toInt, B, rb, rk, ri, md.fr m r1 (by decide), rQ.fr r1 (Ex.rf τ) (by decide), xd.fr X r1 (Ex.rf τ) (by decide), ?_⟩
  first | exact yr | (rw [z3] at yr; exact yr)
set_option maxRecDepth 20000 in
theorem lm_12 (l : Launch) (D : va_G) (G : Nat → Nat) (b0 : Nat) {τ : Nat → Nat} {f : hM} {K sh qs M : Nat → Nat} {o : Nat} (u1 : Int32) (u2 : Int32) (u3 : Int32) (u4 : Int32) (u5 : Int32) (r0 : Int32) (h : LIP G τ f K sh qs M o (fun ln ac hi B rb rk ri => RQ G τ f K M (-1) ∧ XD G τ f K sh qs ln ac hi B rb rk ri ∧ (((0 ≤ u1.toInt ∧ u1.toInt ≤ 2) ∧ (0 ≤ u2.toInt ∧ u2.toInt < (rb 80).toInt) ∧ (0 ≤ u3.toInt ∧ u3.toInt ≤ 60) ∧ (-70 ≤ u4.toInt ∧ u4.toInt ≤ 70) ∧ -70 ≤ u5.toInt ∧ u5.toInt ≤ 70) → r0.toInt = (Ag rb u2.toInt u1.toInt 1 u3.toInt.toNat u4.toInt u5.toInt).toInt) ∧ (¬ ((0 ≤ u1.toInt ∧ u1.toInt ≤ 2) ∧ (0 ≤ u2.toInt ∧ u2.toInt < (rb 80).toInt) ∧ (0 ≤ u3.toInt ∧ u3.toInt ≤ 60) ∧ (-70 ≤ u4.toInt ∧ u4.toInt ≤ 70) ∧ -70 ≤ u5.toInt ∧ u5.toInt ≤ 70) → r0.toInt = -1))) : mI l yX11_at cX11_at 6 (.int) rm_s_X11_atX D G b0 f [.ref (M 0), .int u1, .int u2, .int u3, .int u4, .int u5] (fun r f1 => r0 = r ∧ ∃ τ1, LI G τ1 f1 K sh qs M o) := by
  obtain ⟨⟨t, X, g, m, ng, ho⟩, ln, ac, hi, B, rb, rk, ri, md, rQ, xd, hr⟩ := h
  obtain ⟨⟨p0, p1, p2, p3, p4, p5⟩, q0_, q1_, q2_, q3_, q4_⟩ := id m
  obtain ⟨ln', ac', hi', rt, ⟨i1, i2, i3⟩, ⟨f1_, f2_, f3_⟩, ⟨k1, k2, k3⟩, ⟨k4, k5, k6, k7⟩, mB⟩ := id md
  subst f1_; subst f2_; subst f3_
  have hb := t.bk9 p2 k5
  refine (s_X11_atX l D G b0 τ f t (M 0) p0 u1 (iv_any _) u2 (iv_any _) u3 (iv_any _) u4 (iv_any _) u5 (iv_any _) (M 2) p2 q1_ rb k5 ng).post (fun r f1 hp => ?_)
  obtain ⟨-, t1, r1, yr, n1⟩ := hp
  refine ⟨Int32.toInt_inj.mp ?_, τ, (LI.of ⟨t, X, g, m, ng, ho⟩ xd md rQ).mq t1 r1 n1 (by decide) (by decide)⟩
  by_cases hok : (0 ≤ u1.toInt ∧ u1.toInt ≤ 2) ∧ (0 ≤ u2.toInt ∧ u2.toInt < (rb 80).toInt) ∧ (0 ≤ u3.toInt ∧ u3.toInt ≤ 60) ∧ (-70 ≤ u4.toInt ∧ u4.toInt ≤ 70) ∧ -70 ≤ u5.toInt ∧ u5.toInt ≤ 70
  · rw [hr.1 hok, yr.1 hok]
  · rw [hr.2 hok, yr.2 hok]
