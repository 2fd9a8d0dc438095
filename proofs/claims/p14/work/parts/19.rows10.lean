/-! ===== ninth layer: rows of references exactly, what else is as it was, things made ===== -/
def FX (A : List Nat) (f g : hM) : Prop := ∀ q, q ∉ A → f q ≠ none → g q = f q
theorem FX.rf (A : List Nat) (f : hM) : FX A f f := fun _ _ _ => rfl
theorem FX.up {A : List Nat} {f g g1 : hM} {a : Nat} (h : FX A f g) (hn : ∀ q, q ≠ a → g1 q = g q) (ha : a ∈ A) : FX A f g1 := fun q hq h0 => (hn q (fun z => hq (by rw [z]; exact ha))).trans (h q hq h0)
theorem FX.tr {A1 A : List Nat} {f g k : hM} (h : FX A f g) (h2 : FX A1 g k) (hs : ∀ x ∈ A1, x ∈ A ∨ f x = none) : FX A f k := fun q hq h0 => by
  have e := h q hq h0
  rw [h2 q (fun z => (hs _ z).elim hq h0) (by rw [e]; exact h0), e]
theorem FX.new {A : List Nat} {f g : hM} {q : Nat} {e : va_E} (h : FX A f g) (hq : g q = none) : FX A f (hu g q e) := fun a ha h0 => by
  have e1 := h a ha h0
  rw [hu_ne (fun z => by rw [z, hq] at e1; rw [z] at h0; exact h0 e1.symm)]; exact e1
theorem atp.nn {f : hM} {a : Nat} {P : va_E → Prop} (h : atp f a P) : f a ≠ none := by
  obtain ⟨e, h1, -⟩ := h
  rw [h1]; exact fun z => by cases z
theorem atp.fx {A : List Nat} {f g : hM} {a : Nat} {P : va_E → Prop} (h : atp f a P) (o : FX A f g) (ha : a ∉ A) : atp g a P := h.tr (o a ha h.nn)
theorem ne_tg {τ : Nat → Nat} {a b s t : Nat} (ha : τ a = s) (hb : τ b = t) (h : s ≠ t) : a ≠ b := fun z => h (by rw [← ha, ← hb, z])
theorem nm0 {a : Nat} : a ∉ ([] : List Nat) := List.not_mem_nil
theorem nmc {a x : Nat} {l : List Nat} (h : a ≠ x) (hl : a ∉ l) : a ∉ x :: l := fun z => (List.mem_cons.mp z).elim h hl
def eqr (G : Nat → Nat) (g n : Nat) (ρ : Nat → Option Nat) : va_E → Prop := eqc (.inl (G g, n, .inr (.inr (.inr (.inr ρ)))))
theorem va_up_at {r : Nat → Option Nat} {k i : Nat} {x : Option Nat} (h : k = i) : va_up r i x k = x := by unfold va_up; rw [if_pos h]
theorem va_up_off {r : Nat → Option Nat} {k i : Nat} {x : Option Nat} (h : ¬ k = i) : va_up r i x k = r k := by unfold va_up; rw [if_neg h]
theorem TI.raw {G : Nat → Nat} {β : Int} {τ : Nat → Nat} {f : hM} (t : TI G β τ f) {a : Nat} {e : va_E} (ha : τ a = 0) : TI G β τ (hu f a e) := fun q hq => by
  rw [hu_ne (fun z => hq (by rw [z]; exact ha))]; exact t q hq
theorem Fr.raw {S : List Nat} {τ : Nat → Nat} {f0 f : hM} (o : Fr S τ f0 f) {a : Nat} {e : va_E} (ha : τ a = 0) (h0 : 0 ∈ S) : Fr S τ f0 (hu f a e) := ⟨fun q hq => by
  rw [hu_ne (fun z => hq (by rw [z, ha]; exact h0))]; exact o.1 q hq, fun q k v hz hk h => by
  obtain ⟨e1, q1, q2⟩ := o.2 q k v hz hk h
  exact ⟨e1, by rw [hu_ne (fun z => hz (by rw [z]; exact ha))]; exact q1, q2⟩⟩
theorem tuEx {τ : Nat → Nat} {q tg : Nat} (h : τ q = 0) : Ex τ (tu τ q tg) := fun a ha => if_neg (fun z => ha (by rw [z]; exact h))
theorem TI.tag {G : Nat → Nat} {β : Int} {τ : Nat → Nat} {f : hM} (t : TI G β τ f) {q tg : Nat} {e : va_E} (hz : τ q = 0) (hq : f q = some e) (he : wf G β τ tg e) : TI G β (tu τ q tg) f := fun a ha => by
  by_cases h : a = q
  · subst h
    refine ⟨e, hq, ?_⟩
    rw [show tu τ a tg a = tg from if_pos rfl]
    exact wf_ext (tuEx hz) he
  · have e1 : tu τ q tg a = τ a := if_neg h
    rw [e1] at ha ⊢
    obtain ⟨x, h1, h2⟩ := t a ha
    exact ⟨x, h1, wf_ext (tuEx hz) h2⟩
section GRows
variable {p : Program} {l : Launch} {e : Env} {R : Room} {s : State} {m : MethodId} {args : Array Value} {below : List Frame} {meth : Method} {c : Code} {H : Heap} {locs : List Loc} {cells slots : Nat} {Q : State → Prop}
variable {cc : ByteArray} {nL pc : Nat} {ls : Array Slot} {rest : List Value} {D : va_G} {G : Nat → Nat} {b0 a : Nat} {f f0 : hM} {own : String} {H0 : Heap} {τ : Nat → Nat} {β : Int} {tg : Nat} {S : List Nat}
theorem e_aaldO (C : hC p s m args meth c cc nL own D G b0) (h : hw D b0 H0 f H locs) (t : TI G β τ f) {g n tq : Nat} {Cn : String} (ht : (hgy G)[g]? = some (G g, .object Cn)) (ha : τ a = tg) (h0 : tg ≠ 0) (hT : ∀ e, wf G β τ tg e → isRO G τ g n tq e) {ρ : Nat → Option Nat} (hr : atp f a (eqr G g n ρ)) {i : Int32} (hin : vp_in i n) (hdg : decode cc pc = .ok (.aaload, 1)) (kk : ∀ q : Option Nat, q = ρ i.toInt.toNat → (∀ z, q = some z → τ z = tq) → W p l e R s m args below meth c H locs cells slots Q (F0 m (pc + 1) ls (va_rf q :: rest))) : W p l e R s m args below meth c H locs cells slots Q (F0 m pc ls (.int i :: .ref a :: rest)) := by
  obtain ⟨x, h1, h2⟩ := t.at ha h0
  obtain ⟨r2, rfl, h3⟩ := hT _ h2
  obtain ⟨e, q1, q2⟩ := hr
  rw [h1] at q1; cases q1
  cases q2
  exact q_aald C h g ht h1 hin hdg (kk _ rfl (fun z hz => h3 _ z hz))
theorem e_aaldR (C : hC p s m args meth c cc nL own D G b0) (h : hw D b0 H0 f H locs) (t : TI G β τ f) {g n tq : Nat} {Cn : String} (ht : (hgy G)[g]? = some (G g, .object Cn)) (ha : τ a = tg) (h0 : tg ≠ 0) (hT : ∀ e, wf G β τ tg e → isRA G τ g n tq e) {ρ : Nat → Option Nat} (hr : atp f a (eqr G g n ρ)) {i : Int32} (hin : vp_in i n) (hdg : decode cc pc = .ok (.aaload, 1)) (kk : ∀ q : Nat, ρ i.toInt.toNat = some q → τ q = tq → W p l e R s m args below meth c H locs cells slots Q (F0 m (pc + 1) ls (.ref q :: rest))) : W p l e R s m args below meth c H locs cells slots Q (F0 m pc ls (.int i :: .ref a :: rest)) := by
  obtain ⟨x, h1, h2⟩ := t.at ha h0
  obtain ⟨r, rfl, h3⟩ := hT _ h2
  obtain ⟨e, q1, q2⟩ := hr
  rw [h1] at q1; cases q1
  cases q2
  obtain ⟨q, e1, e2⟩ := h3 i.toNatClampNeg (Nat.not_le.mp fun q => hin (Or.inr q))
  refine q_aald C h g ht h1 hin hdg ?_
  rw [e1]; exact kk q e1 e2
theorem e_aastO (C : hC p s m args meth c cc nL own D G b0) (h : hw D b0 H0 f H locs) (t : TI G β τ f) (o : Fr S τ f0 f) {g n tq ci : Nat} {rr : vw_C} {tys : List (Nat × Int × Int)} (ht : (hgy G)[g]? = some (G g, .object rr.1)) (hc : vwCl[ci]? = some rr) (ha : τ a = tg) (h0 : tg ≠ 0) (hS : tg ∈ S) (hT : ∀ e, wf G β τ tg e → isRO G τ g n tq e) (hT2 : ∀ e, isRO G τ g n tq e → wf G β τ tg e) (hq0 : tq ≠ 0) (hwo : ∀ e, wf G β τ tq e → wo τ ci tys e) {ρ : Nat → Option Nat} (hr : atp f a (eqr G g n ρ)) {i : Int32} {x : Option Nat} (hin : vp_in i n) (hx : ∀ z, x = some z → τ z = tq) (hdg : decode cc pc = .ok (.aastore, 1)) (kk : ∀ (ρ1 : Nat → Option Nat) (f1 : hM), ρ1 = va_up ρ i.toInt.toNat x → ∀ (H1 : Heap) (locs1 : List Loc), hw D b0 H0 f1 H1 locs1 → TI G β τ f1 → Fr S τ f0 f1 → (∀ q, τ q ≠ tg → f1 q = f q) → (∀ q, q ≠ a → f1 q = f q) → atp f1 a (eqr G g n ρ1) → W p l e R s m args below meth c H1 locs1 cells slots Q (F0 m (pc + 1) ls rest)) {xv : Value} (hxv : xv = va_rf x) : W p l e R s m args below meth c H locs cells slots Q (F0 m pc ls (xv :: .int i :: .ref a :: rest)) := by
  subst hxv
  obtain ⟨y, h1, h2⟩ := t.at ha h0
  obtain ⟨r2, rfl, h3⟩ := hT _ h2
  obtain ⟨e, q1, q2⟩ := hr
  rw [h1] at q1; cases q1
  cases q2
  have hro : ∀ j q, va_up ρ i.toInt.toNat x j = some q → τ q = tq := fun j q hq => by
    by_cases hj : j = i.toInt.toNat
    · rw [va_up_at hj] at hq; exact hx q hq
    · rw [va_up_off hj] at hq; exact h3 j q hq
  cases x with
  | none => exact q_aastN C h g ht h1 hin hdg (fun H1 locs1 h9 => kk _ _ rfl H1 locs1 h9 (t.up ha (hT2 _ ⟨_, rfl, hro⟩)) (o.upA ha hS h1) (hu_tg ha _) (fun q hq => hu_ne hq) ⟨_, hu_self _ _ _, rfl⟩)
  | some v =>
    obtain ⟨y2, g1, g2⟩ := t.at (hx v rfl) hq0
    obtain ⟨vs, rfl, -⟩ := hwo _ g2
    exact q_aast C h g ci ht hc h1 g1 hin hdg (fun H1 locs1 h9 => kk _ _ rfl H1 locs1 h9 (t.up ha (hT2 _ ⟨_, rfl, hro⟩)) (o.upA ha hS h1) (hu_tg ha _) (fun q hq => hu_ne hq) ⟨_, hu_self _ _ _, rfl⟩)
/-- a row of ints, once more -/
theorem q_clone (C : hC p s m args meth c cc nL own D G b0) (h : hw D b0 H0 f H locs) {lv0 : List (Nat × Value)} (hl : lv_has ls nL lv0) {index n : Nat} {r : Nat → Int32} (hf : f a = some (.inl (G 1, n, .inl r))) (hlink : Cond.methodLink own index ⟨"[I", "clone", "()Ljava/lang/Object;"⟩ ∈ wAll) (hsame : Cond.sameMethod "[I" "java/lang/Object" "clone" "()Ljava/lang/Object;" ∈ wAll) (hnat : Cond.native ⟨"java/lang/Object", "clone", "()Ljava/lang/Object;"⟩ ∈ wAll) (hinst : Cond.instanceMethod ⟨"java/lang/Object", "clone", "()Ljava/lang/Object;"⟩ ∈ wAll) (hsel : Cond.selects "[I" ⟨"[I", "clone", "()Ljava/lang/Object;"⟩ ⟨"java/lang/Object", "clone", "()Ljava/lang/Object;"⟩ ∈ wAll)
    (hframes : 1 ≤ R.frames) (hlocals : (rest.map fun v => v.category).sum + 14 ≤ R.locals) (hcells : cells + 1 ≤ R.cells) (hslots : slots + n ≤ R.slots) (hdg : decode cc pc = .ok (.invokevirtual index, 3))
    (kk : ∀ (q : Nat) (H1 : Heap), f q = none → hw D b0 H0 (hu f q (.inl (G 1, n, .inl r))) H1 locs → W p l e R s m args below meth c H1 locs (cells + 1) (slots + n) Q (F0 m (pc + 3) ls (.ref q :: rest))) : W p l e R s m args below meth c H locs cells slots Q (F0 m pc ls (.ref a :: rest)) := by
  obtain ⟨hexec, hb, hml, hown, hts, hE0, -⟩ := C
  have hK := hE0.1
  have hra := (hK.2 1 _ (hgy1 G)).2
  have hnm : s.vm.findClass "[I" = some (G 1) := va_nm_int hra
  have hcl : va_Nw (.castable "[I" "java/lang/Cloneable") s := hE0.2.2.2.2.2.2.2.2.2.2.2.2.1 ("[I", "java/lang/Cloneable") (by simp [cast_l])
  have hsz : (vp_cell (G 1) (n, .inl r)).slots.size = n := arrV_size _ _ _
  obtain ⟨c0, t0', f1, f2, f3⟩ := Cond.castable_spec (va_Nw.use (A := args) rfl hcl)
  cases hnm.symm.trans f1
  intro T hT X
  have hcellT : T.heap[a]? = some (vp_cell (G 1) (n, .inl r)) := by rw [hT]; exact h.1 a _ hf
  obtain ⟨-, kA, hkA, comp, hkind⟩ := State.isArrayOf_alike X.warmed.alike ((hK.2 1 _ (hgy1 G)).1 0 (fun _ => .null))
  obtain ⟨-, kS, hkS, compS, hkindS⟩ := (hK.2 1 _ (hgy1 G)).1 0 (fun _ => .null)
  obtain ⟨vm', X', st⟩ := X.cloneArray hexec hown (hts _ hlink) (hts _ hsame) (hts _ hnat) (hts _ hinst) (hts _ hsel) (a := a) (cell := vp_cell (G 1) (n, .inl r)) hcellT (fun k h => by cases h) (fun h => by cases h) hnm f2 f3
    (fun i v hv => by
      have hk' : T.vm.classes[G 1]? = some kA := hkA
      have hfit : fits .int v = true := va_fit (cA := G 1) (n := n) (F := fun j => .int (r j)) (fun _ _ => rfl) i v hv
      have hcl0 : (vp_cell (G 1) (n, .inl r)).cls = G 1 := rfl
      rw [hcl0]
      simpa [State.fitsSlot, State.slotType?, hk', hkind] using hfit)
    (g := F0 m pc ls (.ref a :: rest)) rfl (by rw [hml, hl.1]) rfl (by rw [hb]; exact hdg) hframes (by show 2 * 0 + _ + 14 ≤ _; omega) hcells (by rw [hsz]; exact hslots) (hloader := Vm.clonesLoader_of_array hkS hkindS)
  rw [hsz] at X'
  generalize hH1 : H.push (vp_cell (G 1) (n, .inl r)) = H1
  have z1 : H1.size = H.size + 1 := by rw [← hH1, Array.size_push]
  have e1 : H1[H.size]? = some (vp_cell (G 1) (n, .inl r)) := by rw [← hH1, Array.getElem?_push_size]
  have o1 : ∀ q : Nat, q < H.size → H1[q]? = H[q]? := fun q hq => by rw [← hH1, Array.getElem?_push, if_neg (Nat.ne_of_lt hq)]
  obtain ⟨h1, h2⟩ := h.new (H1 := H1) (e := .inl (G 1, n, .inl r)) e1 (by omega) o1
  obtain ⟨t, b1, b2⟩ := kk H.size H1 h2 h1 ((T.setVm vm').pushCell (vp_cell (G 1) (n, .inl r))) (by rw [← hH1, ← hT]; rfl) X'
  refine ⟨t, st t ?_, b2⟩
  rw [hT]
  exact b1
theorem q_castI (C : hC p s m args meth c cc nL own D G b0) (h : hw D b0 H0 f H locs) {index n : Nat} {r : Nat → Int32} (hf : f a = some (.inl (G 1, n, .inl r))) (hlink : Cond.classLink own index "[I" ∈ wAll) (hdg : decode cc pc = .ok (.checkcast index, 3)) (kk : W p l e R s m args below meth c H locs cells slots Q (F0 m (pc + 3) ls (.ref a :: rest))) : W p l e R s m args below meth c H locs cells slots Q (F0 m pc ls (.ref a :: rest)) :=
  va_castA C.1 C.2.1 C.2.2.2.1 (C.2.2.2.2.1 _ hlink) (h.1.one hf) 0 rfl (va_nm_int (C.2.2.2.2.2.1.1.2 1 _ (hgy1 G)).2) hdg kk
end GRows
