theorem w_124 : Cond.classLink "QuarterWalksLaw" 8 "QuarterWalks" ∈ wAll := wI1 29 (by decide +kernel) (by decide +kernel)
theorem w_125 : Cond.instantiable "QuarterWalks" 10 ∈ wAll := wI1 30 (by decide +kernel) (by decide +kernel)
theorem nw_L_8 : nw RL 8 11 10 [.null, .null, .null, .null, .null, .null, .null, .null, .null, .null] := ⟨RX10, TX10, tyX10, rfl, inA_X10, tyX10_ok, w_124, w_125, w_96, by decide +kernel⟩
theorem mk_X10_init : mk yX10_init 0 := ⟨by decide +kernel, w_96⟩
theorem w_126 : Cond.methodLink "QuarterWalksLaw" 15 yX10_init ∈ wAll := wI1 31 (by decide +kernel) (by decide +kernel)
theorem w_127 : Cond.instanceMethod yX10_init ∈ wAll := wI1 32 (by decide +kernel) (by decide +kernel)
theorem w_128 : Cond.code yX10_init cX10_init 1 none ∈ wAll := wI1 33 (by decide +kernel) (by decide +kernel)
theorem w_1427 : Cond.classLink "QuarterWalksLaw" 16 "QuarterWalksModel" ∈ wAll := wI6 132 (by decide +kernel) (by decide +kernel)
theorem w_1428 : Cond.instantiable "QuarterWalksModel" 32 ∈ wAll := wI6 133 (by decide +kernel) (by decide +kernel)
theorem nw_L_16 : nw RL 16 12 32 [.int 0, .null, .int 0, .int 0, .int 0, .null, .null, .null, .null, .null, .int 0, .int 0, .null, .null, .int 0, .null, .null, .null, .long 0, .null, .null, .null, .null, .null, .null, .null, .null, .int 0, .int 0, .null, .null, .int 0] := ⟨RX11, TX11, tyX11, rfl, inA_X11, tyX11_ok, w_1427, w_1428, w_110, by decide +kernel⟩
theorem mk_X11_init : mk yX11_init 0 := ⟨by decide +kernel, w_110⟩
theorem w_1429 : Cond.methodLink "QuarterWalksLaw" 18 yX11_init ∈ wAll := wI6 134 (by decide +kernel) (by decide +kernel)
theorem w_1430 : Cond.instanceMethod yX11_init ∈ wAll := wI6 135 (by decide +kernel) (by decide +kernel)
theorem w_1431 : Cond.code yX11_init cX11_init 1 none ∈ wAll := wI6 136 (by decide +kernel) (by decide +kernel)

set_option maxRecDepth 100000 in
set_option maxHeartbeats 4000000 in
theorem whole_start {p : Program} {e : Env} {s : State} {m : MethodId} {below : List Frame} {meth : Method} {c : Code} (l : Launch) (hflags : l.flags = flags0) {b L : Nat} {xs : Nat → Int32} (hL : L ≤ 4096) (C0 : lw_At p s m meth c b L xs) : W p l e room_1 s m #[Value.ref b] below meth c s.heap [] 0 0 (lw_Z below #[Value.ref b] s) (entryFrame m ([Value.ref b] : List Value).toArray 7) := by
  have hst : l.stackTraces = false := by unfold Launch.stackTraces; rw [hflags]; decide +kernel
  obtain ⟨hx, hb, hr, hml, hown, hts0, hXs, hbl, hlk, hgv⟩ := id C0
  obtain ⟨D, G, hE0⟩ := hE_start hts0 hgv
  obtain ⟨b0, hb0⟩ : ∃ z, s.heap.size = z := ⟨_, rfl⟩
  rw [hb0] at hE0
  have hts : ∀ w ∈ wAll, w.before #[Value.ref b] s = true := fun w hw => hts0 w (wAll_tbl w hw)
  have C : hC p s m #[Value.ref b] meth c cL_law 7 RL D G b0 := ⟨hx, hb, hml, hown, hts, hE0, hlk⟩
  have hbA : ¬ hA b0 b := by rw [← hb0]; exact Nat.not_le.mpr hbl
  have h : hw D b0 s.heap (fun _ => none) s.heap [] := ⟨fun a x ha => (by cases ha), fun a x ha => (by cases ha), va_S.rf, (by rw [hb0]; exact Nat.le_refl _)⟩
  rw [lg_entry_eq]
  have hl := lv_entry ([.ref b]) (n := 7) (Nat.le_of_ble_eq_true rfl)
  generalize (lg_sl ([.ref b]) ++ List.replicate (7 - (lg_sl ([.ref b])).length) Slot.unset).toArray = ls at hl ⊢
  have hl : lv_has ls 7 [(0, .ref b)] := hl
  have t0 : TI G 9 (fun _ => 0) (fun _ => none) := fun a ha => absurd rfl ha
  refine q_new C h nw_L_8 (Nat.le_of_ble_eq_true rfl) (Nat.le_of_ble_eq_true rfl) dL_law_0 (fun x H nx h => ?_)
  refine lv_dup hx hb dL_law_3 rfl ?_
  refine k_v (r_I C h hl (As := []) (rest := [.ref x]) (k_X10_init l D G b0 (t0.raw (t0.zero (q := x) nx)) x (hu_self _ _ _) (t0.zero (q := x) nx)) mk_X10_init rfl w_126 w_127 w_128 ⟨Nat.le_of_ble_eq_true rfl, Nat.le_of_ble_eq_true rfl⟩ rfl (Nat.le_of_ble_eq_true rfl) ⟨Nat.le_of_ble_eq_true rfl, Nat.le_of_ble_eq_true rfl⟩ rfl dL_law_4) h (fun f1 H locs hp h => ?_)
  obtain ⟨τ1, t1, G1, tx, K, sh, qs, hK0, X1, g1, z1, z2, z3, z4, z5, z6⟩ := hp
  refine lv_astore_n (lv' := [(1, .ref x), (0, .ref b)]) hx hb dL_law_7 rfl hl (by decide) rfl (fun ls hl => ?_)
  refine q_new C h nw_L_16 (Nat.le_of_ble_eq_true rfl) (Nat.le_of_ble_eq_true rfl) dL_law_8 (fun q H nq h => ?_)
  refine lv_dup hx hb dL_law_11 rfl ?_
  refine k_v (r_I C h hl (As := []) (rest := [.ref q]) (k_X11_init l D G b0 (t1.raw (t1.zero (q := q) nq)) q (hu_self _ _ _) (t1.zero (q := q) nq)) mk_X11_init rfl w_1429 w_1430 w_1431 ⟨Nat.le_of_ble_eq_true rfl, Nat.le_of_ble_eq_true rfl⟩ rfl (Nat.le_of_ble_eq_true rfl) ⟨Nat.le_of_ble_eq_true rfl, Nat.le_of_ble_eq_true rfl⟩ rfl dL_law_12) h (fun f2 H locs hp h => ?_)
  obtain ⟨τ2, t2, G2, tq, M, hM0, m2, ng2, y1, y2, y3, y4, y5, y6, y7⟩ := hp
  have w2 := gw_call t1 nq G2
  refine lv_astore_n (lv' := [(2, .ref q), (1, .ref x), (0, .ref b)]) hx hb dL_law_15 rfl hl (by decide) rfl (fun ls hl => ?_)
  refine lv_iconst (v := 1) hx hb dL_law_16 (by decide) ?_
  refine q_newa C h (atype := .long) 2 rfl rfl rfl w_235 (a0 := (1, .inr (.inl (fun _ => 0)))) (fun _ => rfl) (by decide) (N' := 1) (by decide) (Nat.le_of_ble_eq_true rfl) (Nat.le_of_ble_eq_true rfl) (Nat.le_of_ble_eq_true rfl) dL_law_17 (fun o H no h => ?_)
  have t3 := t2.new (tg := 79) (e := .inl (G 2, 1, .inr (.inl (fun _ => 0)))) no (fw_79 _ ⟨_, rfl⟩)
  have w3 : Gw τ2 f2 (tu τ2 o 79) (hu f2 o (.inl (G 2, 1, .inr (.inl (fun _ => 0))))) := ⟨t2.newEx no, Fr.new (Fr.rf _ _ _) no (t2.zero no) (by decide)⟩
  have w := w2.tr w3
  have X3 := X1.fr w.2 w.1 (by decide)
  have g3 := (GJ.fr g1 w.2 X1.1.2.2.2.2.2.2.2.2.2.2.2 (by decide)).ex w.1
  have m3 := m2.fr w3.2 w3.1 (by decide)
  have ng3 := (ng2.fr w3.2 m2.1.1 (by decide)).ex w3.1
  obtain ⟨⟨a0, a1, a2, a3, a4, a5, a6, a7, a8, a9, a10, a11⟩, -⟩ := id X1
  obtain ⟨⟨p0, p1, p2, p3, p4, p5⟩, -⟩ := id m2
  obtain ⟨rk, ri, md⟩ := MD.start t3 m3 (w3.at p0 (by decide) y1) (w3.at p0 (by decide) y2) (w3.at p0 (by decide) y3) (w3.at p2 (by decide) y4) (fun _ => 0)
  have xd := XD.start t3 X3 (w.at a1 (by decide) z1) (w.at a4 (by decide) z2) (w.at a4 (by decide) z3) (w.at a4 (by decide) z4) (w.at a6 (by decide) z5) (fun _ => 0) (fun _ => 0) rk ri rfl
  have rQ : RQ G (tu τ2 o 79) (hu f2 o (.inl (G 2, 1, .inr (.inl (fun _ => 0))))) K M (-1) := ⟨⟨w.tg a5 (by decide), w3.tg y5 (by decide), w3.tg p0 (by decide), w3.at p0 (by decide) y6⟩, _, _, w.at a5 (by decide) z6, w3.at y5 (by decide) y7, fun k hk => by rw [if_neg (by omega)]⟩
  have h0 : LI G (tu τ2 o 79) (hu f2 o (.inl (G 2, 1, .inr (.inl (fun _ => 0))))) K sh qs M o := ⟨t3, X3, g3, m3, ng3, tu_self _ _ _, 0, 0, 0, fun _ => 0, fun _ => 0, rk, ri, xd, md, rQ⟩
  refine lv_astore_n (lv' := [(3, .ref o), (2, .ref q), (1, .ref x), (0, .ref b)]) hx hb dL_law_19 rfl hl (by decide) rfl (fun ls hl => ?_)
  refine lv_iconst (v := 0) hx hb dL_law_20 (by decide) ?_
  refine lv_istore (lv' := [(4, .int 0), (3, .ref o), (2, .ref q), (1, .ref x), (0, .ref b)]) hx hb dL_law_21 hl (by decide) rfl (fun ls hl => ?_)
  refine W.widen (k := 125 + 49 * 0) (n := 106894 + 4900 * 0) (Nat.le_of_ble_eq_true rfl) (Nat.le_of_ble_eq_true rfl) ?_
  rw [← hK0, ← hM0] at hl
  exact law_loop (e := e) (below := below) (CC := 125) (SS := 106894) hst C0 hb0 hE0 hL (by omega) (by omega) 513 0 (by omega) (by omega) (by omega) 0 _ _ H _ ls rfl h0 h hl
-- ===== YOUR PART ENDS =====
set_option maxHeartbeats 4000000 in
theorem lw_walk (l : Launch) (hflags : l.flags = flags0) (b : Addr) (xs : List Int32) : MetFree l x (headSpec (Jvm.Cond.code x code maxLocals ret :: tables_1) room_1) (lw_P b xs) (fun _ _ _ _ _ => True) lw_Q := by
  refine MetFree.of_bodyS (code := code) (maxLocals := maxLocals) (ret := ret) (by decide) ?_ ?_
  · intro args s m h hn
    obtain ⟨meth, c, h1, h2, h3, h4, h5, h6, -, -⟩ := Cond.code_spec hn (atoms_spec (ws := Jvm.Cond.code x code maxLocals ret :: tables_1) h _ List.mem_cons_self)
    exact ⟨meth, c, h1, h2, h3, h4, h5, h6⟩
  · intro p e s m args below meth c s₁ B hml0 hP _
    obtain ⟨rfl, hx, hbd, hgv⟩ := hP
    obtain ⟨scr, harrAt, hlist, hof, hsmall⟩ := hx
    obtain ⟨hcb, hkn, -, -⟩ := State.arrayAt?_spec harrAt
    have hown : s.vm.findClass R_law = some m.cls := findClass_of_methodNamed B.named
    have hts0 : ∀ c ∈ (Jvm.Cond.code x code maxLocals ret :: tables_1), c.before #[Value.ref b] s = true := atoms_spec (ws := Jvm.Cond.code x code maxLocals ret :: tables_1) B.pre
    have hts : ∀ w ∈ lw_tbl, w.before #[Value.ref b] s = true := k2_hts_sels lw_privs (fun w hw => hts0 w (List.mem_cons_of_mem _ hw)) lw_privs_ok
    have hml : c.maxLocals = 7 := B.maxLocals_eq (hts0 _ List.mem_cons_self)
    have X₀ : Stand p l e room_1 s m #[Value.ref b] below meth c s₁ [] 0 0 := Stand.of_body B
    have hh0 : s₁.heap = s.heap := by rw [B.state]; rfl
    have hsz : scr.slots.size = xs.length := by rw [← Array.length_toList, hlist, List.length_map]
    have hval : ∀ j : Nat, j < xs.length → scr.slots[j]? = some (.int (xs.getD j 0)) := fun j hj => by
      rw [← Array.getElem?_toList, hlist]
      simp [hj]
    have hbl : b < s.heap.size := (Array.getElem?_eq_some_iff.mp hcb).1
    have hX : va_X b xs.length (fun j => xs.getD j 0) s s.heap := ⟨scr, hcb, hof, hkn, hsz, hval⟩
    have K : W p l e room_1 s m #[Value.ref b] below meth c s₁.heap [] 0 0 (lw_Z below #[Value.ref b] s) (entryFrame m ([Value.ref b] : List Value).toArray 7) := by
      rw [hh0]
      exact whole_start l hflags hbd ⟨B.exec, B.bytes, B.returns, hml, hown, hts, hX, hbl, B.notSynchronized, hgv⟩
    obtain ⟨t, a1, o, b1, b2, b3⟩ := K s₁ rfl X₀
    exact ⟨t, o, a1, b1, b2, b3⟩
theorem lw_pre_spec {args : Array Value} {s : State} (h : (Jvm.Cond.and given_1 narrow_1).before args s = true) (hr : rest_1_c.before args s = true) : ∃ (b : Addr) (xs : List Int32), lw_P b xs args s := by
  have hs := flat_of_before _ h
  have hq := flat_of_before _ hr
  have hc : (Cond.count 1).before args s = true := hs _ (by decide +kernel)
  have harr : (Cond.arrayOf (.arg 0) .int).before args s = true := hs _ (by decide +kernel)
  have hle : (Cond.le (.length (.arg 0)) (.int 4096)).before args s = true := hs _ (by decide +kernel)
  have hlen : (Cond.isInt (.length (.arg 0))).before args s = true := hq _ (by decide +kernel)
  have hall : (Cond.all (.arg 0) (.isInt (.elem (.arg 0) (.index 0)))).before args s = true := hq _ (by decide +kernel)
  obtain ⟨b, xs, hb, hx⟩ := State.ints_of_pre rfl harr hlen hall
  have hsm : xs.length < 2 ^ 31 := hx.choose_spec.2.2.2
  have hev : (Term.length (.arg 0)).eval args s none [] s = some (.int xs.length.toInt32) := hx.length_eval hb
  have hv := Cond.le_ints hev (show (Term.int 4096).eval args s none [] s = some (.int 4096) from rfl)
  have hd : xs.length.toInt32 ≤ 4096 := by
    simpa [Cond.before, Cond.holds, hv] using hle
  have hN : xs.length ≤ 4096 := (Int32.ofNat_le_ofNat hsm (by decide)).mp (show Int32.ofNat xs.length ≤ Int32.ofNat 4096 from hd)
  exact ⟨b, xs, Cond.one_arg hc (show args[0]? = some (.ref b) from hb), hx, hN, h⟩
theorem lw_comes (l : Launch) (hflags : l.flags = flags0) : Comes l x (Jvm.Cond.code x code maxLocals ret :: tables_1) room_1 (fun tb e args s => Calls_1 tb e args s ∧ rest_1 tb e args s ∧ Pre_1 tb e args s)
    (fun _ _ args s o t => lw_Q args s o t) := by
  intro p e ha hc hk s m args below hf hfit hheap happ hpre
  obtain ⟨b, xs, hP⟩ := lw_pre_spec hpre.2.2 hpre.2.1
  obtain ⟨k, o, h1, h2, h3, hQ⟩ := lw_walk l hflags b xs p e ha hc hk s m args below hf ((Spec.applies_iff_loose hf).mp happ).1 hP trivial
  exact ⟨k, o, h1, h2, h3, hQ⟩
theorem lw_frame {s t : State} {o : Outcome} {args : Array Value} (h : Framed s o t [] 601024 7293034) :
    Framed s o t (fieldLocs frame_1_writes args s ++ arrayLocs frame_1_arrays args s ++ staticLocs frame_1_statics s) 601024 7293034 := h
theorem lw_limb (L : Cond) (hL : ∀ (args : Array Value) (s t : State), L.after args s (.returned (some (.int 1))) t = true) :
    ArmFor flags0 classFile x code maxLocals ret World_1 tables_1 room_1 Calls_1 rest_1 Pre_1
      (fun tb e a s o t => postC L tb e a s o t ∧ Framed s o t (fieldLocs frame_1_writes a s ++ arrayLocs frame_1_arrays a s ++ staticLocs frame_1_statics s) 601024 7293034) := by
  intro l hflags _ _ p e ha hc hk s m args below hf hfit hheap happ hpre
  obtain ⟨k, o, h1, h2, h3, rfl, hF⟩ := lw_comes l hflags p e ha hc hk s m args below hf hfit hheap happ hpre
  exact ⟨k, _, h1, h2, h3, hL args s _, lw_frame hF⟩
theorem i_vc : Claimed_1_1 ∧ Claimed_1_2 := ⟨lw_limb limb_1_1 (fun args s t => by simp [limb_1_1, Cond.after, Cond.holds, Cond.value]), lw_limb limb_1_2 (fun args s t => Cond.after_iff.mpr (by
  first | (rw [show limb_1_2 = Cond.eq .result (.int 1) from rfl, Cond.eq_ints (x := 1) (y := 1) rfl rfl]; simp; done) | (simp [limb_1_2, Cond.value, Term.eval]; done)))⟩
