/-! ===== methods of a class that isn't plainly named, but has no row of natives for them ===== -/
theorem ofWF {l : Launch} {y : MethodName} {ws ws' : List Cond} {rm : Room} {Pc : Array Value → State → Prop} {Qc : Array Value → State → Outcome → State → Prop} {mc ms : Nat} {free : Addr → Prop} {cc : ByteArray} {maxL : Nat} {ret : Option FieldType}
    (hy : plainFor y = true) (hw : ws = Cond.code y cc maxL ret :: ws')
    (body : ∀ p e s m args below meth c s₁, BodyLoose p l y (headSpec ws rm) cc maxL ret e s m args below meth c s₁ → c.maxLocals = maxL → Pc args s →
      W p l e (headSpec ws rm).room s m args below meth c s.heap [] 0 0 (MQ below Qc args s mc ms free) (entryFrame m args maxL)) : Met l y ws rm Pc Qc mc ms free := by
  refine MetFree.of_bodySF (code := cc) (maxLocals := maxL) (ret := ret) hy ?_ ?_
  · intro args s m h hn
    obtain ⟨meth, c, h1, h2, h3, h4, h5, h6, -, -⟩ := Cond.code_spec hn (atoms_spec (ws := ws) h _ (by rw [hw]; exact List.mem_cons_self))
    exact ⟨meth, c, h1, h2, h3, h4, h5, h6⟩
  · intro p e s m args below meth c s₁ B hml hP _
    have hh0 : s₁.heap = s.heap := by rw [B.state]; rfl
    obtain ⟨t, a1, o, b1, b2, b3⟩ := body p e s m args below meth c s₁ B hml hP s₁ hh0 (Stand.of_body B)
    exact ⟨t, o, a1, b1, b2, ⟨b3.1, b3.2⟩⟩
theorem met2F {l : Launch} {y : MethodName} {cc : ByteArray} {n : Nat} {ret : Option FieldType} {rm : Room} {D : va_G} {G : Nat → Nat} {b0 : Nat} {f : hM} {av : List Value} {Qc : Array Value → State → Outcome → State → Prop} {own : String} (hy : plainFor y = true) (ho : y.cls = own) (hlen : (lg_sl av).length ≤ n)
    (body : ∀ p e s m args below meth c ls Q, Q = MQ below Qc args s rm.cells rm.slots (hA b0) → hC p s m args meth c cc n own D G b0 → meth.sig.returnType = ret → meth.name = y.name → lv_has ls n (lv_args 0 av) → hw D b0 s.heap f s.heap [] → W p l e rm s m args below meth c s.heap [] 0 0 Q (F0 m 0 ls [])) :
    Met l y (Cond.code y cc n ret :: wAll) rm (va_Pc av (hPre D G b0 f)) Qc rm.cells rm.slots (hA b0) := by
  refine ofWF (cc := cc) (maxL := n) (ret := ret) hy rfl ?_
  intro p e s m args below meth c s₁ B hml hv
  obtain ⟨rfl, hP0, hb, hz, hE0⟩ := hv
  have hts := atoms_spec (ws := Cond.code y cc n ret :: wAll) B.pre
  have hown : s.vm.findClass y.cls = some m.cls := findClass_of_methodNamed B.named
  rw [lg_entry_eq]
  refine body p e s m _ below meth c _ _ rfl ⟨B.exec, B.bytes, hml, by rw [← ho]; exact hown, fun w hw => hts w (List.mem_cons_of_mem _ hw), hE0, B.notSynchronized⟩ B.returns ?_ (lv_entry av hlen) ⟨hP0, hb, va_S.rf, hz⟩
  exact (name_of_methodNamed B.named B.method).1
/-! ===== StringBuilder: rows ===== -/
theorem hw.ups {D : va_G} {b0 : Nat} {H0 : Heap} {f : hM} {H H1 : Heap} {locs : List Loc} (h : hw D b0 H0 f H locs) {a : Nat} {e0 e : va_E} (ha : f a = some e0) (he : va_at D vwCl (a, e) H1) (z : H1.size = H.size) (oq : ∀ q : Nat, q ≠ a → H1[q]? = H[q]?) (L : List Loc) (hL : ∀ q ∈ L, q.base = a) : hw D b0 H0 (hu f a e) H1 (locs ++ L) := by
  obtain ⟨h1, h2, h3, h4⟩ := h
  refine ⟨h1.up he oq, fun b x hb => ?_, ⟨by rw [z]; exact h3.1, fun q g1 g2 => ?_, fun q hq => ?_⟩, h4⟩
  · by_cases hba : b = a
    · rw [hba]; exact h2 a e0 ha
    · rw [hu_ne hba] at hb; exact h2 b x hb
  · rw [oq q (fun e => g2 (by rw [e]; exact h2 a e0 ha))]; exact h3.2.1 q g1 g2
  · rcases List.mem_append.mp hq with q1 | q1
    · exact h3.2.2 q q1
    · rw [hL q q1]; exact h2 a e0 ha
theorem nnc {z : Int32} (hz : ¬ z < 0) : z.toInt = (z.toNatClampNeg : Int) := by
  have hz0 : (0 : Int) ≤ z.toInt := by
    have := Int32.not_lt.mp hz
    simpa using Int32.le_iff_toInt_le.mp this
  show z.toInt = ((z.toInt.toNat : Nat) : Int)
  omega
section SBRows
variable {p : Program} {l : Launch} {e : Env} {R : Room} {s : State} {m : MethodId} {args : Array Value} {below : List Frame} {meth : Method} {c : Code} {H : Heap} {locs : List Loc} {cells slots : Nat} {Q : State → Prop}
variable {cc : ByteArray} {nL pc : Nat} {ls : Array Slot} {rest : List Value} {D : va_G} {G : Nat → Nat} {b0 a : Nat} {f : hM} {own : String} {H0 : Heap}
/-- bytes of one row to another one -/
theorem q_copyB (C : hC p s m args meth c cc nL own D G b0) (h : hw D b0 H0 f H locs) {lv0 : List (Nat × Value)} (hl : lv_has ls nL lv0) {index : Nat} (hlink : Cond.methodLink own index arraycopyName ∈ wAll) (hnat : Cond.native arraycopyName ∈ wAll) (hstat : Cond.static arraycopyName ∈ wAll) (hini : Cond.initialized "java/lang/System" ∈ wAll) {a0 n0 n1 : Nat} {r g : Nat → Int32} (ha0 : f a0 = some (.inl (G 0, n0, .inl r))) (ha1 : f a = some (.inl (G 0, n1, .inl g)))
    {sp dp n : Int32} (h1 : ¬ sp < 0) (h2 : ¬ dp < 0) (h3 : ¬ n < 0) (h4 : sp.toNatClampNeg + n.toNatClampNeg ≤ n0) (h5 : dp.toNatClampNeg + n.toNatClampNeg ≤ n1) (hfit : ∀ i, i < n.toNatClampNeg → fits .byte (.int (r (sp.toNatClampNeg + i))) = true)
    (hframes : 1 ≤ R.frames) (hlocals : (rest.map fun v => v.category).sum + (nativeFrameWords "java/lang/System" "arraycopy" 5 + 11) ≤ R.locals) (hdg : decode cc pc = .ok (.invokestatic index, 3))
    (kk : ∀ (H1 : Heap) (locs1 : List Loc), hw D b0 H0 (hu f a (.inl (G 0, n1, .inl (va_cpy r g sp.toNatClampNeg dp.toNatClampNeg n.toNatClampNeg)))) H1 locs1 → W p l e R s m args below meth c H1 locs1 cells slots Q (F0 m (pc + 3) ls rest)) : W p l e R s m args below meth c H locs cells slots Q (F0 m pc ls (.int n :: .int dp :: .ref a :: .int sp :: .ref a0 :: rest)) := by
  obtain ⟨hexec, hb, hml, hown, hts, hE0, -⟩ := C
  have hK := hE0.1
  intro T hT X
  have hc0 : H[a0]? = some (vp_cell (G 0) (n0, .inl r)) := h.1 a0 _ ha0
  have hc1 : H[a]? = some (vp_cell (G 0) (n1, .inl g)) := h.1 a _ ha1
  obtain ⟨-, k0, hk0, cm0, hkk0⟩ := (hK.2 0 _ rfl).1 n0 (fun j => .int (r j))
  obtain ⟨-, k1, hk1, cm1, hkk1⟩ := (hK.2 0 _ rfl).1 n1 (fun j => .int (g j))
  obtain ⟨vm', X', step⟩ := X.arraycopy hexec hown (hts _ hlink) (hts _ hnat) (hts _ hstat) (hts _ hini) (src := a0) (dst := a) (cs := vp_cell (G 0) (n0, .inl r)) (cd := vp_cell (G 0) (n1, .inl g)) (srcPos := sp) (destPos := dp) (n := n) (by rw [hT]; exact hc0) (by rw [hT]; exact hc1)
    (fun _ h => by cases h) (fun _ h => by cases h) (fun h => by cases h) (fun h => by cases h) hk0 hk1 hkk0 hkk1 (by simp [refKind]) h1 h2 h3
    (by rw [nnc h1, nnc h3]; show ¬ _ > ((arrV (G 0) n0 (fun j => .int (r j))).slots.size : Int); rw [arrV_size]; omega)
    (by rw [nnc h2, nnc h3]; show ¬ _ > ((arrV (G 0) n1 (fun j => .int (g j))).slots.size : Int); rw [arrV_size]; omega)
    (fun vm₁ _ i hi => by
      have e : (vp_cell (G 0) (n0, .inl r)).slots.getD (sp.toNatClampNeg + i) .null = .int (r (sp.toNatClampNeg + i)) := by
        show (arrV (G 0) n0 (fun j => .int (r j))).slots.getD _ _ = _
        rw [Array.getD_eq_getD_getElem?, arrV_read _ _ (by omega)]
        rfl
      refine ⟨?_, ?_⟩
      · rw [e]; exact hfit i hi
      · rw [e]; exact trivial)
    (g := F0 m pc ls (.int n :: .int dp :: .ref a :: .int sp :: .ref a0 :: rest)) rfl (by rw [hml, hl.1]) (rest := rest) rfl (by rw [hb]; exact hdg) hframes (by show 2 * 0 + _ + _ ≤ _; omega)
  have e1 : copied (vp_cell (G 0) (n0, .inl r)) (vp_cell (G 0) (n1, .inl g)) sp dp n = vp_cell (G 0) (n1, .inl (va_cpy r g sp.toNatClampNeg dp.toNatClampNeg n.toNatClampNeg)) := va_copied (fun z => .int z) (G 0) (G 0) r g h4
  rw [e1] at X' step
  generalize hz : (.inl (G 0, n1, .inl (va_cpy r g sp.toNatClampNeg dp.toNatClampNeg n.toNatClampNeg)) : va_E) = zz at kk
  have hl2 : a < H.size := (Array.getElem?_eq_some_iff.mp hc1).1
  have hheap : ((T.setVm vm').setCell a (vp_cell (G 0) (n1, .inl (va_cpy r g sp.toNatClampNeg dp.toNatClampNeg n.toNatClampNeg)))).heap = H.setIfInBounds a (vp_cell (G 0) (n1, .inl (va_cpy r g sp.toNatClampNeg dp.toNatClampNeg n.toNatClampNeg))) := by rw [← hT]; rfl
  have oq : ∀ q : Nat, q ≠ a → (H.setIfInBounds a (vp_cell (G 0) (n1, .inl (va_cpy r g sp.toNatClampNeg dp.toNatClampNeg n.toNatClampNeg))))[q]? = H[q]? := fun q hq => by simp [Array.getElem?_setIfInBounds, Ne.symm hq]
  obtain ⟨t, a1, b1⟩ := kk _ _ (h.ups ha1 (by rw [← hz]; show (H.setIfInBounds a _)[a]? = some _; simp [Array.getElem?_setIfInBounds, hl2]) (by simp) oq _ (fun q hq => by
      obtain ⟨z, -, hz⟩ := List.mem_map.mp hq
      rw [← hz])) _ hheap X'
  exact ⟨t, step t a1, b1⟩
/-- bytes of a constant's row to one of ours -/
theorem q_copyT (C : hC p s m args meth c cc nL own D G b0) (h : hw D b0 s.heap f H locs) {lv0 : List (Nat × Value)} (hl : lv_has ls nL lv0) {index : Nat} (hlink : Cond.methodLink own index arraycopyName ∈ wAll) (hnat : Cond.native arraycopyName ∈ wAll) (hstat : Cond.static arraycopyName ∈ wAll) (hini : Cond.initialized "java/lang/System" ∈ wAll) {t0 n0 n1 : Nat} {r g : Nat → Int32} (hX : va_T .byte t0 n0 (fun j => .int (r j)) (hA b0) s s.heap) (ha1 : f a = some (.inl (G 0, n1, .inl g)))
    {sp dp n : Int32} (h1 : ¬ sp < 0) (h2 : ¬ dp < 0) (h3 : ¬ n < 0) (h4 : sp.toNatClampNeg + n.toNatClampNeg ≤ n0) (h5 : dp.toNatClampNeg + n.toNatClampNeg ≤ n1) (hfit : ∀ i, i < n.toNatClampNeg → fits .byte (.int (r (sp.toNatClampNeg + i))) = true)
    (hframes : 1 ≤ R.frames) (hlocals : (rest.map fun v => v.category).sum + (nativeFrameWords "java/lang/System" "arraycopy" 5 + 11) ≤ R.locals) (hdg : decode cc pc = .ok (.invokestatic index, 3))
    (kk : ∀ (H1 : Heap) (locs1 : List Loc), hw D b0 s.heap (hu f a (.inl (G 0, n1, .inl (va_cpy r g sp.toNatClampNeg dp.toNatClampNeg n.toNatClampNeg)))) H1 locs1 → W p l e R s m args below meth c H1 locs1 cells slots Q (F0 m (pc + 3) ls rest)) : W p l e R s m args below meth c H locs cells slots Q (F0 m pc ls (.int n :: .int dp :: .ref a :: .int sp :: .ref t0 :: rest)) := by
  obtain ⟨hexec, hb, hml, hown, hts, hE0, -⟩ := C
  have hK := hE0.1
  intro T hT X
  obtain ⟨scr, hs1, hs2, hs3, hs4, -, hs5, hs7⟩ := hX
  have hc0 : H[t0]? = some scr := by rw [h.2.2.1.2.1 t0 (Array.getElem?_eq_some_iff.mp hs1).1 hs7]; exact hs1
  have hc1 : H[a]? = some (vp_cell (G 0) (n1, .inl g)) := h.1 a _ ha1
  obtain ⟨hs6, k0, hk0, cm0, hkk0⟩ := hs2
  obtain ⟨-, k1, hk1, cm1, hkk1⟩ := (hK.2 0 _ rfl).1 n1 (fun j => .int (g j))
  obtain ⟨vm', X', step⟩ := X.arraycopy hexec hown (hts _ hlink) (hts _ hnat) (hts _ hstat) (hts _ hini) (src := t0) (dst := a) (cs := scr) (cd := vp_cell (G 0) (n1, .inl g)) (srcPos := sp) (destPos := dp) (n := n) (by rw [hT]; exact hc0) (by rw [hT]; exact hc1)
    hs6 (fun _ h => by cases h) hs3 (fun h => by cases h) hk0 hk1 hkk0 hkk1 (by simp [refKind]) h1 h2 h3
    (by rw [nnc h1, nnc h3]; omega)
    (by rw [nnc h2, nnc h3]; show ¬ _ > ((arrV (G 0) n1 (fun j => .int (g j))).slots.size : Int); rw [arrV_size]; omega)
    (fun vm₁ _ i hi => by
      have e : scr.slots.getD (sp.toNatClampNeg + i) .null = .int (r (sp.toNatClampNeg + i)) := by
        rw [Array.getD_eq_getD_getElem?, hs5 _ (by omega)]
        rfl
      refine ⟨?_, ?_⟩
      · rw [e]; exact hfit i hi
      · rw [e]; exact trivial)
    (g := F0 m pc ls (.int n :: .int dp :: .ref a :: .int sp :: .ref t0 :: rest)) rfl (by rw [hml, hl.1]) (rest := rest) rfl (by rw [hb]; exact hdg) hframes (by show 2 * 0 + _ + _ ≤ _; omega)
  have e1 : copied scr (vp_cell (G 0) (n1, .inl g)) sp dp n = vp_cell (G 0) (n1, .inl (va_cpy r g sp.toNatClampNeg dp.toNatClampNeg n.toNatClampNeg)) := va_copiedX (fun z => .int z) scr (G 0) r g hs5 h4
  rw [e1] at X' step
  generalize hz : (.inl (G 0, n1, .inl (va_cpy r g sp.toNatClampNeg dp.toNatClampNeg n.toNatClampNeg)) : va_E) = zz at kk
  have hl2 : a < H.size := (Array.getElem?_eq_some_iff.mp hc1).1
  have hheap : ((T.setVm vm').setCell a (vp_cell (G 0) (n1, .inl (va_cpy r g sp.toNatClampNeg dp.toNatClampNeg n.toNatClampNeg)))).heap = H.setIfInBounds a (vp_cell (G 0) (n1, .inl (va_cpy r g sp.toNatClampNeg dp.toNatClampNeg n.toNatClampNeg))) := by rw [← hT]; rfl
  have oq : ∀ q : Nat, q ≠ a → (H.setIfInBounds a (vp_cell (G 0) (n1, .inl (va_cpy r g sp.toNatClampNeg dp.toNatClampNeg n.toNatClampNeg))))[q]? = H[q]? := fun q hq => by simp [Array.getElem?_setIfInBounds, Ne.symm hq]
  obtain ⟨t, a1, b1⟩ := kk _ _ (h.ups ha1 (by rw [← hz]; show (H.setIfInBounds a _)[a]? = some _; simp [Array.getElem?_setIfInBounds, hl2]) (by simp) oq _ (fun q hq => by
      obtain ⟨z, -, hz⟩ := List.mem_map.mp hq
      rw [← hz])) _ hheap X'
  exact ⟨t, step t a1, b1⟩
end SBRows
/-- a builder's cells -/
abbrev sbo (v : Nat) (ml c : Int32) : va_E := .inr (0, [.ref v, .int 0, .int ml, .int c])
abbrev sba (G : Nat → Nat) (n : Nat) (r : Nat → Int32) : va_E := .inl (G 0, n, .inl r)
/-- bytes -/
def byt (r : Nat → Int32) : Prop := ∀ j, iv (r j) (-128) 127
theorem byt_fit {r : Nat → Int32} (h : byt r) (j : Nat) : fits .byte (.int (r j)) = true := by
  have h1 := h j
  show (decide (-128 ≤ r j) && decide (r j ≤ 127)) = true
  rw [Bool.and_eq_true]
  exact ⟨decide_eq_true (Int32.le_iff_toInt_le.mpr (by have : (-128 : Int32).toInt = -128 := rfl; omega)), decide_eq_true (Int32.le_iff_toInt_le.mpr (by have : (127 : Int32).toInt = 127 := rfl; omega))⟩
theorem ofNat_toInt {n : Nat} (h : n < 2147483648) : (Int32.ofNat n).toInt = (n : Int) := Int32.toInt_ofNat_small (by omega)
/-- a private method of the class above -/
theorem sel_priv {Cn : String} {y z : MethodName} {s : State} {args : Array Value} (hy : y.cls ≠ "java/lang/invoke/MethodHandle" ∧ y.cls ≠ "java/lang/invoke/VarHandle") (hz : z.cls = y.cls) (w0 : (Cond.selects Cn z z).before args s = true) (hpriv : (Cond.privateMethod y).before args s = true) (hinst : (Cond.instanceMethod y).before args s = true) : (Cond.selects Cn y y).before args s = true := by
  obtain ⟨c, r, m, hc, hr, hm, hsel, k, hk, hni⟩ := Cond.selects_spec w0
  obtain ⟨mk, methM, hnamed, hmethM, -, -⟩ := Cond.instanceMethod_spec hinst
  have hfound : s.methodFound? y.cls y.name y.desc = some mk := State.methodFound?_of_named hnamed hy
  have hcls : mk.cls = m.cls := Option.some.inj ((findClass_of_methodNamed hnamed).symm.trans (by rw [← hz]; exact findClass_of_methodNamed hm))
  have hs : selectMethod {} s.vm c mk = .method mk := selectMethod_private hmethM (Cond.privateMethod_at hpriv mk methM hnamed hmethM)
  simp only [Cond.before, Cond.holds, Cond.value, hc, hfound, hnamed, hs, hcls, hk]
  simp; exact hni
section SBCalls
variable {p : Program} {l : Launch} {e : Env} {R : Room} {s : State} {m : MethodId} {args : Array Value} {below : List Frame} {meth : Method} {c : Code} {H : Heap} {locs : List Loc} {cells slots : Nat} {Q : State → Prop}
variable {cc : ByteArray} {nL pc : Nat} {ls : Array Slot} {rest : List Value} {D : va_G} {G : Nat → Nat} {b0 a : Nat} {f : hM} {own : String} {H0 : Heap}
theorem r_VP (C : hC p s m args meth c cc nL own D G b0) (h : hw D b0 s.heap f H locs) {lv0 : List (Nat × Value)} (hl : lv_has ls nL lv0) {y : MethodName} {bytes : ByteArray} {maxL n ci : Nat} {ret : Option FieldType} {rm : Room} {index : Nat} {As : List Value} {Qc : Array Value → State → Outcome → State → Prop} {fs : List Value} {Cn : String} {T : u_T} {N : Nat} (hM : Met l y (Cond.code y bytes maxL ret :: wAll) rm (va_Pc (.ref a :: As) (hPre D G b0 f)) Qc rm.cells rm.slots (hA b0)) (hf : f a = some (.inr (ci, fs))) (hc : vwCl[ci]? = some (Cn, T, N)) (hmk : mk y n) (w1 : Cond.methodLink own index y ∈ wAll) (w2 : Cond.instanceMethod y ∈ wAll) (w3 : (Cond.selects Cn y y).before args s = true) (w4 : Cond.code y bytes maxL ret ∈ wAll) (hR : rm.frames + 1 ≤ R.frames ∧ 8 + (maxL + 11) + rm.locals ≤ R.locals) (hn : As.length = n) (hrest : (rest.map fun v => v.category).sum ≤ 8) (hcs : cells + rm.cells ≤ R.cells ∧ slots + rm.slots ≤ R.slots) {st0 : List Value} (hst : st0 = As.reverse ++ .ref a :: rest) (hdg : decode cc pc = .ok (.invokevirtual index, 3)) :
    va_Run p l e R s m args below meth c H locs cells slots rm.cells rm.slots (F0 m pc ls st0) rest (Qc (Value.ref a :: As).toArray) (hA b0) := by
  have hts := C.2.2.2.2.1
  exact va_runV (Ts := wAll) (own := own) (C := Cn) (bytes := bytes) (maxL := maxL) (ret := ret) ⟨C.1, C.2.1, C.2.2.1, C.2.2.2.1, hts⟩ hM ⟨callB_of n hts (wAll_in w4) rfl rfl rfl (hts _ hmk.2) (hts _ w1) hmk.1 hR, hts _ w2, w3⟩ ⟨hPre_blind _, va_recv C.2.2.2.2.2.1.1 (h.1.one hf) hc (q0 := 0) rfl, hPre_of C h _⟩ rfl hn hl.1 hst (lv_room (m := m) (pc := pc) (ls := ls) (rest := st0) hrest) hdg hcs
/-- a method of the class above, by super -/
theorem r_U (C : hC p s m args meth c cc nL own D G b0) (h : hw D b0 s.heap f H locs) {lv0 : List (Nat × Value)} (hl : lv_has ls nL lv0) {y : MethodName} {bytes : ByteArray} {maxL n ci : Nat} {ret : Option FieldType} {rm : Room} {index : Nat} {As : List Value} {Qc : Array Value → State → Outcome → State → Prop} {fs : List Value} {Cn : String} {T : u_T} {N : Nat} (hM : Met l y (Cond.code y bytes maxL ret :: wAll) rm (va_Pc (.ref a :: As) (hPre D G b0 f)) Qc rm.cells rm.slots (hA b0)) (hf : f a = some (.inr (ci, fs))) (hc : vwCl[ci]? = some (Cn, T, N)) (hco : Cn = own) (hmk : mk y n) (hni : y.name ≠ "<init>") (w1 : Cond.methodLink own index y ∈ wAll) (w2 : Cond.instanceMethod y ∈ wAll) (w3 : Cond.sameMethod y.cls y.cls y.name y.desc ∈ wAll) (w5 : Cond.superclass own y.cls ∈ wAll) (w4 : Cond.code y bytes maxL ret ∈ wAll) (hR : rm.frames + 1 ≤ R.frames ∧ 8 + (maxL + 11) + rm.locals ≤ R.locals) (hn : As.length = n) (hrest : (rest.map fun v => v.category).sum ≤ 8) (hcs : cells + rm.cells ≤ R.cells ∧ slots + rm.slots ≤ R.slots) {st0 : List Value} (hst : st0 = As.reverse ++ .ref a :: rest) (hdg : decode cc pc = .ok (.invokespecial index, 3)) :
    va_Run p l e R s m args below meth c H locs cells slots rm.cells rm.slots (F0 m pc ls st0) rest (Qc (Value.ref a :: As).toArray) (hA b0) := by
  have hts := C.2.2.2.2.1
  have cw := callB_of (R := R) (own := own) (index := index) (rm := rm) n hts (wAll_in w4) rfl rfl rfl (hts _ hmk.2) (hts _ w1) hmk.1 hR
  have hK : Back l R p e below s args y 3 8 (PreOf R rm.cells rm.slots (va_Pc (.ref a :: As) (hPre D G b0 f))) (PostOf Qc rm.cells rm.slots (hA b0)) := callBack cw hM (hPre_blind _)
  obtain ⟨-, -, -, -, -, -, hcode, -, hy, hlen, hlk⟩ := cw
  obtain ⟨cell, hcell, hobj, hcls⟩ := va_recv C.2.2.2.2.2.1.1 (h.1.one hf) hc (q0 := 0) rfl
  obtain ⟨r0, r, hnm, hrm, hstatic, habs⟩ := Cond.instanceMethod_spec (hts _ w2)
  obtain ⟨cn, dk, kp, hcn, hdk, hkp, hsuper, -, -, hnid⟩ := Cond.superclass_spec C.2.2.2.1 (hts _ w5)
  have hcn' : s.vm.findClass y.cls = some r0.cls := findClass_of_methodNamed hnm
  cases hcn.symm.trans hcn'
  obtain ⟨kr, hkr, -⟩ := className_of_methodNamed hnm
  have hsub : s.vm.isSubclass r0.cls r0.cls = true := Jvm.Free.SB.SBLen.isSubclass_self _ _ _ hkr
  obtain ⟨methL, cL, hmL, -, -, -, -, -, -, hsigL⟩ := Cond.code_spec hnm (hts _ w4)
  cases hrm.symm.trans hmL
  have hkcell : s.vm.classes[cell.cls]? = some dk := by
    have e1 : some cell.cls = some m.cls := hcls.symm.trans (by rw [hco]; exact C.2.2.2.1)
    rw [Option.some.inj e1]; exact hdk
  intro T2 hT X
  obtain ⟨v, vm₁, ⟨U', l2, c2, s2⟩, hW₁, X', ⟨g', mk', t, L, e1, e2, hq, h1, hL, h2, h3⟩, st⟩ := X.specialUpBack C.1 (own := own) (owner := y.cls) (index := index) (x := y) C.2.2.2.1 (hts _ w1) (hts _ w3) hnm hrm hstatic habs hni hdk hnid hcn' hsuper hsub
    (a := a) (cell := cell) (by rw [hT]; exact hcell) (by intro q hq; rw [hq] at hobj; cases hobj) hkcell hK (g := F0 m pc ls st0) rfl (hl.1.trans C.2.2.1.symm) (Steps.refl _) (argsL := As) (rest := rest) (hn.trans (hlen _ hsigL)) hst (lv_room (m := m) (pc := pc) (ls := ls) (rest := st0) hrest) (by rw [C.2.1]; exact hdg)
    (fun vm₁ hW₁ => ⟨hcs.1, hcs.2, hPre_of C h _ (T2.setVm vm₁) hT hW₁⟩)
  dsimp only [Pt.U, Pt.locs, Pt.cells, Pt.slots] at X' e1 e2 h1 h2 h3 st
  subst h1; subst h2; subst h3
  exact ⟨v, (T2.setVm vm₁).calling g' mk' (Value.ref a :: As).toArray, t, U', L, hT, X', hL, e1, e2, hq, fun target h9 => st.trans h9⟩
end SBCalls
theorem shl0_eq {x y : Int32} (h : y = x <<< ((0 : Int32) &&& 31)) : y = x := by rw [h]; exact sb_shl0 x
section BVRows
variable {p : Program} {l : Launch} {e : Env} {R : Room} {s : State} {m : MethodId} {args : Array Value} {below : List Frame} {meth : Method} {c : Code} {H : Heap} {locs : List Loc} {cells slots : Nat} {Q : State → Prop}
variable {cc : ByteArray} {nL pc : Nat} {ls : Array Slot} {rest : List Value} {D : va_G} {G : Nat → Nat} {b0 a : Nat} {f f0 : hM} {own : String} {H0 : Heap} {τ : Nat → Nat} {β : Int} {tg : Nat} {S : List Nat}
/-- bytes of a builder -/
abbrev bvr (G : Nat → Nat) (n : Nat) (r : Nat → Int32) : va_E → Prop := eqc (.inl (G 0, n, .inl r))
theorem bv_at (t : TI G β τ f) (ha : τ a = 53) {n : Nat} {r : Nat → Int32} (hr : atp f a (bvr G n r)) : (16 ≤ n ∧ n ≤ 100) ∧ byt r := by
  obtain ⟨x, h1, h2⟩ := t.at ha (by decide)
  obtain ⟨n2, r2, rfl, h3, h4⟩ := wf_53 _ h2
  obtain ⟨e, q1, q2⟩ := hr
  rw [h1] at q1; cases q1
  cases q2
  exact ⟨h3, h4⟩
theorem bv_get (t : TI G β τ f) (ha : τ a = 53) : ∃ (n : Nat) (r : Nat → Int32), atp f a (bvr G n r) := by
  obtain ⟨x, h1, h2⟩ := t.at ha (by decide)
  obtain ⟨n2, r2, rfl, h3, h4⟩ := wf_53 _ h2
  exact ⟨n2, r2, _, h1, rfl⟩
theorem e_bvlen (C : hC p s m args meth c cc nL own D G b0) (h : hw D b0 H0 f H locs) (t : TI G β τ f) (ha : τ a = 53) {n : Nat} {r : Nat → Int32} (hr : atp f a (bvr G n r)) (hdg : decode cc pc = .ok (.arraylength, 1)) (kk : ∀ x : Int32, x.toInt = (n : Int) → iv x 16 100 → W p l e R s m args below meth c H locs cells slots Q (F0 m (pc + 1) ls (.int x :: rest))) : W p l e R s m args below meth c H locs cells slots Q (F0 m pc ls (.ref a :: rest)) := by
  have h3 := (bv_at t ha hr).1
  have e1 : (Int32.ofNat n).toInt = (n : Int) := ofNat_toInt (by omega)
  exact q_alen C h 0 (ty := .byte) rfl (eqc_some hr) (v := Int32.ofNat n) rfl hdg (kk _ e1 (by rw [iv, e1]; omega))
theorem e_bvald (C : hC p s m args meth c cc nL own D G b0) (h : hw D b0 H0 f H locs) (t : TI G β τ f) (ha : τ a = 53) {n : Nat} {r : Nat → Int32} (hr : atp f a (bvr G n r)) {i : Int32} (hin : vp_in i n) (hdg : decode cc pc = .ok (.baload, 1)) (kk : ∀ x : Int32, x = r i.toInt.toNat → iv x (-128) 127 → W p l e R s m args below meth c H locs cells slots Q (F0 m (pc + 1) ls (.int x :: rest))) : W p l e R s m args below meth c H locs cells slots Q (F0 m pc ls (.int i :: .ref a :: rest)) :=
  q_bald C h (eqc_some hr) hin hdg (kk _ rfl ((bv_at t ha hr).2 _))
theorem TI.bv (t : TI G β τ f) (ha : τ a = 53) {n : Nat} {r : Nat → Int32} (hn : 16 ≤ n ∧ n ≤ 100) (hb : byt r) : TI G β τ (hu f a (.inl (G 0, n, .inl r))) := t.up ha (fw_53 _ ⟨n, r, rfl, hn, hb⟩)
theorem e_bvast (C : hC p s m args meth c cc nL own D G b0) (h : hw D b0 H0 f H locs) (t : TI G β τ f) (o : Fr S τ f0 f) (ha : τ a = 53) (hS : 53 ∈ S) {n : Nat} {r : Nat → Int32} (hr : atp f a (bvr G n r)) {i x : Int32} (hin : vp_in i n) (hdg : decode cc pc = .ok (.bastore, 1)) (kk : ∀ (r1 : Nat → Int32) (f1 : hM), r1 = upd r i.toInt.toNat x.toInt8.toInt32 → ∀ (H1 : Heap) (locs1 : List Loc), hw D b0 H0 f1 H1 locs1 → TI G β τ f1 → Fr S τ f0 f1 → (∀ q, τ q ≠ 53 → f1 q = f q) → (∀ q, q ≠ a → f1 q = f q) → atp f1 a (bvr G n r1) → W p l e R s m args below meth c H1 locs1 cells slots Q (F0 m (pc + 1) ls rest)) : W p l e R s m args below meth c H locs cells slots Q (F0 m pc ls (.int x :: .int i :: .ref a :: rest)) := by
  have hb := bv_at t ha hr
  refine q_bast C h (eqc_some hr) hin hdg (fun H1 locs1 h9 => kk _ _ rfl H1 locs1 h9 (TI.bv t ha hb.1 (fun j => ?_)) (o.upA ha hS (eqc_some hr)) (hu_tg ha _) (fun q hq => hu_ne hq) ⟨_, hu_self _ _ _, rfl⟩)
  show iv (upd r i.toNatClampNeg x.toInt8.toInt32 j) (-128) 127
  unfold upd
  split
  · exact iv_i2b x
  · exact hb.2 j
theorem byt_cpy {r g : Nat → Int32} (hr : byt r) (hg : byt g) (sp dp n : Nat) : byt (va_cpy r g sp dp n) := fun j => by
  unfold va_cpy
  split
  · exact hr _
  · exact hg _
/-- a new row of bytes -/
theorem e_bvnew (C : hC p s m args meth c cc nL own D G b0) (h : hw D b0 H0 f H locs) (t : TI G β τ f) (o : Fr S τ f0 f) (h0 : 0 ∈ S) {x : Int32} (hx : iv x 16 100) (harr : Cond.arrayClass .byte ∈ wAll) (hcells : cells + 1 ≤ R.cells) (hslots : slots + 100 ≤ R.slots) (hdg : decode cc pc = .ok (.newarray .byte, 2))
    (kk : ∀ (q : Nat) (f1 : hM) (H1 : Heap), f q = none → hw D b0 H0 f1 H1 locs → TI G β (tu τ q 53) f1 → Ex τ (tu τ q 53) → Fr S τ f0 f1 → atp f1 q (bvr G x.toInt.toNat (fun _ => 0)) → (∀ a, a ≠ q → f1 a = f a) → W p l e R s m args below meth c H1 locs (cells + 1) (slots + 100) Q (F0 m (pc + 2) ls (.ref q :: rest))) : W p l e R s m args below meth c H locs cells slots Q (F0 m pc ls (.int x :: rest)) := by
  have hn : x.toNatClampNeg ≤ 100 := by show x.toInt.toNat ≤ 100; omega
  refine q_newa C h (atype := .byte) 0 rfl rfl rfl harr (a0 := (x.toNatClampNeg, .inl (fun _ => 0))) (fun _ => rfl) (fun z => by have := Int32.lt_iff_toInt_lt.mp z; have n0 : (0 : Int32).toInt = 0 := rfl; omega) rfl (by show x.toNatClampNeg * 1 ≤ _; omega) hcells (by omega) hdg (fun q H1 nq h1 => ?_)
  refine W.widen (Nat.le_refl _) (show slots + x.toNatClampNeg ≤ slots + 100 by omega) ?_
  have hz := t.zero nq
  exact kk q _ H1 nq h1 (TI.new t nq (fw_53 _ ⟨_, _, rfl, (by show 16 ≤ x.toInt.toNat ∧ x.toInt.toNat ≤ 100; omega), fun j => ⟨by decide, by decide⟩⟩)) (t.newEx nq) (o.new nq hz h0) ⟨_, hu_self _ _ _, rfl⟩ (fun a ha => hu_ne ha)
end BVRows
theorem dg1_iv (j : Nat) : iv (dg1 j) 48 57 := by
  have e : (dg1 j).toInt = ((48 + j % 10 : Nat) : Int) := ofNat_toInt (by omega)
  rw [iv, e]; omega
/-- a builder whose bytes are enough for what it holds -/
def CPs (G : Nat → Nat) (τ : Nat → Nat) (f : hM) (u : Nat) : Prop := ∃ (vq n : Nat) (r : Nat → Int32) (c : Int32), τ vq = 53 ∧ atp f u (fd 0 (.ref vq)) ∧ atp f vq (bvr G n r) ∧ atp f u (fd 3 (.int c)) ∧ c.toInt ≤ (n : Int)
theorem CPs.tg {G τ : Nat → Nat} {f g : hM} {u tg : Nat} (h : CPs G τ f u) (hq : ∀ q, τ q ≠ tg → g q = f q) (hu : τ u = 52) (n : 52 ≠ tg ∧ 53 ≠ tg) : CPs G τ g u := by
  obtain ⟨vq, n0, r, c, h1, h2, h3, h4, h5⟩ := h
  exact ⟨vq, n0, r, c, h1, h2.tg hq hu n.1, h3.tg hq h1 n.2, h4.tg hq hu n.1, h5⟩
theorem CPs.fr {G τ : Nat → Nat} {f g : hM} {u : Nat} {S : List Nat} (h : CPs G τ f u) (o : Fr S τ f g) (hu : τ u = 52) (n : 52 ∉ S ∧ 53 ∉ S) : CPs G τ g u := by
  obtain ⟨vq, n0, r, c, h1, h2, h3, h4, h5⟩ := h
  exact ⟨vq, n0, r, c, h1, h2.fr o hu n.1, h3.fr o h1 n.2, h4.fr o hu n.1, h5⟩
theorem CPs.ex {G τ τ1 : Nat → Nat} {f : hM} {u : Nat} (h : CPs G τ f u) (x : Ex τ τ1) : CPs G τ1 f u := by
  obtain ⟨vq, n0, r, c, h1, h2, h3, h4, h5⟩ := h
  exact ⟨vq, n0, r, c, x.at h1 (by decide), h2, h3, h4, h5⟩
theorem fd_int {f : hM} {a k : Nat} {x y : Int32} (h1 : atp f a (fd k (.int x))) (h2 : atp f a (fd k (.int y))) : x = y := by
  obtain ⟨e, q1, ci, fs, rfl, q2⟩ := h1
  obtain ⟨e2, p1, ci2, fs2, rfl, p2⟩ := h2
  rw [q1] at p1; cases p1
  rw [q2] at p2; cases p2
  rfl
theorem tx_b : ∀ i, i < 12 → ∀ b ∈ str_byt.getD i [], (-128 ≤ b.toInt ∧ b.toInt ≤ 127) := by decide +kernel
theorem tx_byt (i : Nat) (hi : i < 12) : byt (fun j => (str_byt.getD i []).getD j 0) := fun j => by
  show iv ((str_byt.getD i []).getD j 0) (-128) 127
  rw [List.getD_eq_getElem?_getD]
  cases h : (str_byt.getD i [])[j]? with
  | none => exact ⟨by decide, by decide⟩
  | some b => exact tx_b i hi b (List.mem_of_getElem? h)
theorem tx_fit (i : Nat) (hi : i < 12) {n : Nat} : ∀ k, k < n → fits .byte (.int ((fun j => (str_byt.getD i []).getD j 0) ((0 : Int32).toNatClampNeg + k))) = true := fun k _ => byt_fit (tx_byt i hi) _
theorem i2c_id {x : Int32} {lo hi : Int} (hx : iv x lo hi) (q : 0 ≤ lo ∧ hi ≤ 65535) : (x.toUInt32 % 65536).toInt32 = x := by
  refine Int32.toBitVec_inj.mp (BitVec.eq_of_toNat_eq ?_)
  have e1 : ((x.toUInt32 % 65536).toInt32).toBitVec.toNat = x.toBitVec.toNat % 65536 := by
    show (x.toUInt32 % 65536).toNat = _
    rw [UInt32.toNat_mod]; rfl
  have e : x.toInt = x.toBitVec.toInt := rfl
  rw [BitVec.toInt_eq_toNat_bmod, Int.bmod_def] at e
  have hl := x.toBitVec.isLt
  rw [e1]
  split at e <;> omega
theorem nar_c {v : Int32} {lo hi : Int} (hv : iv v lo hi) (q : 0 ≤ lo ∧ hi ≤ 65535) : narrow .char (.int v) = .int v := congrArg Value.int (i2c_id hv q)
theorem u_cret {p : Program} {l : Launch} {e : Env} {R : Room} {s : State} {m : MethodId} {args : Array Value} {below : List Frame} {meth : Method} {c : Code} {H : Heap} {locs : List Loc} {cells slots : Nat} {Q : State → Prop} {cc : ByteArray} {nL pc : Nat} {ls : Array Slot} {D : va_G} {G : Nat → Nat} {b0 : Nat} {f : hM} {own : String} (C : hC p s m args meth c cc nL own D G b0) (h : hw D b0 s.heap f H locs) (hr : meth.sig.returnType = some .char) {post : Int32 → hM → Prop} {v : Int32} {mc ms : Nat} (hQ : Q = MQ below (va_Qi post (hPost D b0) (hA b0)) args s mc ms (hA b0)) (hn : narrow .char (.int v) = .int v) (hp : post v f) (hc : cells ≤ mc) (hs : slots ≤ ms) (hdg : decode cc pc = .ok (.ireturn, 1)) : W p l e R s m args below meth c H locs cells slots Q (F0 m pc ls [.int v]) := by
  subst hQ
  exact q_bret C h hr hn hp hc hs hdg
