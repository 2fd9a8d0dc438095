/-! ===== the layer of this proof: a heap as a partial map, one context, one world; rows over them ===== -/
abbrev hM : Type := Nat → Option va_E
def hu (f : hM) (a : Nat) (e : va_E) : hM := fun q => if q = a then some e else f q
theorem hu_self (f : hM) (a : Nat) (e : va_E) : hu f a e a = some e := if_pos rfl
theorem hu_ne {f : hM} {a b : Nat} {e : va_E} (h : b ≠ a) : hu f a e b = f b := if_neg h
theorem hu_at {f : hM} {a b : Nat} {e x : va_E} (h : f b = some x) (hn : b ≠ a) : hu f a e b = some x := (hu_ne hn).trans h
theorem hu_id {f : hM} {a : Nat} {e : va_E} (h : f a = some e) : hu f a e = f := funext fun q => by
  by_cases hq : q = a
  · subst hq; rw [hu_self, h]
  · exact hu_ne hq
theorem hu_hu (f : hM) (a : Nat) (e e2 : va_E) : hu (hu f a e) a e2 = hu f a e2 := funext fun q => by
  by_cases hq : q = a
  · subst hq; rw [hu_self, hu_self]
  · rw [hu_ne hq, hu_ne hq, hu_ne hq]
theorem upd0 {k : Nat} : upd (fun _ => (0 : Int32)) k 0 = fun _ => 0 := funext fun j => by unfold upd; split <;> rfl
theorem upn0 {k : Nat} : va_up (fun _ => (none : Option Nat)) k none = fun _ => none := funext fun j => by unfold va_up; split <;> rfl
/-- a mark by which two cells are told apart -/
def ekind : va_E → Nat × Nat
  | .inl (_, n, .inl _) => (1, n)
  | .inl (_, n, .inr (.inl _)) => (2, n)
  | .inl (_, n, .inr (.inr _)) => (3, n)
  | .inr (ci, _) => (4, ci)
theorem hne {f : hM} {a b : Nat} {ea eb : va_E} (x y : Nat × Nat) (ha : f a = some ea) (hb : f b = some eb) (na : ekind ea = x) (nb : ekind eb = y) (h : x ≠ y) : b ≠ a := fun q => h (by subst q; rw [← na, ← nb]; exact congrArg ekind (Option.some.inj (ha.symm.trans hb)))
theorem hne0 {f : hM} {a b : Nat} {eb : va_E} (ha : f a = none) (hb : f b = some eb) : b ≠ a := fun q => by subst q; rw [ha] at hb; cases hb
/-- what was there, x apart, is there still -/
def Ol (x : Nat) (f g : hM) : Prop := ∀ q, q ≠ x → f q ≠ none → g q = f q
theorem ol_rf (x : Nat) (f : hM) : Ol x f f := fun _ _ _ => rfl
theorem ol_up {x : Nat} {f0 f g : hM} {v : va_E} (e : hu f x v = g) (o : Ol x f0 f) : Ol x f0 g := fun q h1 h2 => by rw [← e, hu_ne h1]; exact o q h1 h2
theorem ol_upn {x a : Nat} {f0 f g : hM} {v : va_E} (e : hu f a v = g) (z : f0 a = none) (o : Ol x f0 f) : Ol x f0 g := fun q h1 h2 => by
  rw [← e, hu_ne (fun e2 => h2 (by rw [e2]; exact z))]; exact o q h1 h2
theorem ol_none {x a : Nat} {f0 f : hM} {v : va_E} (o : Ol x f0 f) (ha : f a = none) (hx : f x = some v) : f0 a = none := by
  cases h : f0 a with
  | none => rfl
  | some w =>
    have hax : a ≠ x := fun e2 => by rw [e2, hx] at ha; cases ha
    have := o a hax (by rw [h]; exact fun z => by cases z)
    rw [ha, h] at this; cases this
theorem ol_rel {x a : Nat} {f0 f g : hM} (hp : Ol a f g) (z : f0 a = none) (o : Ol x f0 f) : Ol x f0 g := fun q h1 h2 => by
  have h3 := o q h1 h2
  have hqa : q ≠ a := fun e2 => h2 (by rw [e2]; exact z)
  rw [hp q hqa (by rw [h3]; exact h2)]; exact h3
theorem ol_at {x b : Nat} {f g : hM} {v : va_E} (hp : Ol x f g) (hb : f b = some v) (hn : b ≠ x) : g b = some v := (hp b hn (by rw [hb]; exact fun z => by cases z)).trans hb
def hP (D : va_G) (f : hM) (H : Heap) : Prop := ∀ (a : Nat) (e : va_E), f a = some e → va_at D vwCl (a, e) H
def hgy (G : Nat → Nat) : List (ClassId × FieldType) := [(G 0, .byte), (G 1, .int), (G 2, .long), (G 3, .object "QuarterWalks$Shelf"), (G 4, .object "QuarterWalks$StepSet"), (G 5, .array .int), (G 6, .array .long)]
/-- what may be written: all from b0 on -/
abbrev hA (b0 : Nat) : Nat → Prop := fun q => b0 ≤ q
def nest_m : List (String × Nat × MethodName × String) := [("QuarterWalks$Grid", 20, ⟨"QuarterWalks$Box", "<init>", "()V"⟩, "QuarterWalks"), ("QuarterWalks$Tape", 66, ⟨"QuarterWalks", "within", "(III)Z"⟩, "QuarterWalks"), ("QuarterWalks$Book", 29, ⟨"QuarterWalks", "within", "(III)Z"⟩, "QuarterWalks"), ("QuarterWalks$Grid", 125, ⟨"QuarterWalks", "residue", "(J)I"⟩, "QuarterWalks"), ("QuarterWalks$Matrix", 35, ⟨"QuarterWalks", "within", "(III)Z"⟩, "QuarterWalks"), ("QuarterWalks$Matrix", 45, ⟨"QuarterWalks", "times", "(JJ)I"⟩, "QuarterWalks"), ("QuarterWalks$Matrix", 49, ⟨"QuarterWalks", "inverse", "(I)I"⟩, "QuarterWalks"), ("QuarterWalks$Ways", 60, ⟨"QuarterWalks", "within", "(III)Z"⟩, "QuarterWalks"), ("QuarterWalks$Grid", 147, ⟨"QuarterWalks", "times", "(JJ)I"⟩, "QuarterWalks"), ("QuarterWalks$Turns", 31, ⟨"QuarterWalks", "inverse", "(I)I"⟩, "QuarterWalks"), ("QuarterWalks$Turns", 35, ⟨"QuarterWalks", "residue", "(J)I"⟩, "QuarterWalks"), ("QuarterWalks$Turns", 27, ⟨"QuarterWalks", "times", "(JJ)I"⟩, "QuarterWalks"), ("QuarterWalks$Guess", 26, ⟨"QuarterWalks", "within", "(III)Z"⟩, "QuarterWalks"), ("QuarterWalks$Guess", 44, ⟨"QuarterWalks", "times", "(JJ)I"⟩, "QuarterWalks"), ("QuarterWalks$Guess", 48, ⟨"QuarterWalks", "residue", "(J)I"⟩, "QuarterWalks")]
def nest_f : List (String × Nat × String × String × String × String) := [("QuarterWalks$Grid", 97, "QuarterWalks", "DX", "[I", "QuarterWalks"), ("QuarterWalks$Grid", 100, "QuarterWalks", "DY", "[I", "QuarterWalks"), ("QuarterWalks$Ways", 54, "QuarterWalks", "DX", "[I", "QuarterWalks"), ("QuarterWalks$Ways", 57, "QuarterWalks", "DY", "[I", "QuarterWalks")]
def str_r : List (String × Nat × String × Nat) := [("QuarterWalks$Tape", 82, "n nee ses sww nw", 11), ("QuarterWalks$StepSet", 50, "n nee ses sww nw", 11), ("QuarterWalks$StepSet", 42, "; from ", 10), ("QuarterWalksModel", 114, "n", 0), ("QuarterWalksModel", 120, "ne", 1), ("QuarterWalksModel", 122, "e", 2), ("QuarterWalksModel", 124, "se", 3), ("QuarterWalksModel", 126, "s", 4), ("QuarterWalksModel", 128, "sw", 5), ("QuarterWalksModel", 130, "w", 6), ("QuarterWalksModel", 132, "nw", 7), ("QuarterWalksModel", 144, "from", 8), ("QuarterWalksModel", 420, " ", 9), ("QuarterWalksModel", 432, "; from ", 10)]
def str_len : List Nat := [1, 2, 1, 2, 1, 2, 1, 2, 4, 1, 7, 16]
def str_byt : List (List Int32) := [[110], [110, 101], [101], [115, 101], [115], [115, 119], [119], [110, 119], [102, 114, 111, 109], [32], [59, 32, 102, 114, 111, 109, 32], [110, 32, 110, 101, 101, 32, 115, 101, 115, 32, 115, 119, 119, 32, 110, 119]]
def cast_l : List (String × String) := [("java/util/NoSuchElementException", "java/util/NoSuchElementException"), ("[I", "java/lang/Cloneable"), ("[B", "java/lang/Cloneable")]
def decl_l : List MethodName := [⟨"java/lang/RuntimeException", "<init>", "()V"⟩, ⟨"java/lang/Exception", "<init>", "()V"⟩, ⟨"java/lang/Throwable", "<init>", "()V"⟩]
def st_names : List String := ["DX", "DY", "MIRRORED", "OPPOSITE", "X_LESS", "Y_LESS"]
def st_rows : List (List Int32) := [[0, 1, 1, 1, 0, -1, -1, -1], [1, 1, 0, -1, -1, -1, 0, 1], [2, 1, 0, 7, 6, 5, 4, 3], [4, 5, 6, 7, 0, 1, 2, 3], [0, 7, 6, 5, 4, 3, 2, 1], [4, 3, 2, 1, 0, 7, 6, 5]]
def st_at (i j : Nat) : Int32 := (st_rows.getD i []).getD j 0
/-- the class's own static rows -/
def hSt (G : Nat → Nat) (b0 : Nat) (U : State) (H : Heap) : Prop := ∀ i, i < 6 → va_Z "QuarterWalks" (st_names.getD i "") "[I" (.ref (G (60 + i))) (hA b0) U H ∧ va_T .int (G (60 + i)) 8 (fun j => .int (st_at i j)) (hA b0) U H
/-- private methods of the builder's class above -/
def sel_l : List MethodName := [⟨"java/lang/AbstractStringBuilder", "ensureCapacityInternal", "(I)V"⟩, ⟨"java/lang/AbstractStringBuilder", "newCapacity", "(I)I"⟩, ⟨"java/lang/AbstractStringBuilder", "putStringAt", "(ILjava/lang/String;)V"⟩, ⟨"java/lang/AbstractStringBuilder", "inflateIfNeededFor", "(Ljava/lang/String;)V"⟩]
/-- Integer's row of last digits -/
def dg1 (j : Nat) : Int32 := Int32.ofNat (48 + j % 10)
def hDg (G : Nat → Nat) (b0 : Nat) (U : State) (H : Heap) : Prop := va_Z "java/lang/Integer" "DigitOnes" "[B" (.ref (G 70)) (hA b0) U H ∧ va_T .byte (G 70) 100 (fun j => .int (dg1 j)) (hA b0) U H
/-- what holds of the launch's tables and of the cells below b0 -/
def hE (D : va_G) (G : Nat → Nat) (b0 : Nat) (U : State) (H : Heap) : Prop :=
  va_K D vwCl (hgy G) U ∧ va_Z "java/lang/String" "COMPACT_STRINGS" "Z" (.int 1) (hA b0) U H ∧
  (∀ q ∈ nest_m, va_Nw (.methodLinkNest q.1 q.2.1 q.2.2.1 q.2.2.2) U) ∧ (∀ q ∈ nest_f, va_Nw (.fieldLinkNest q.1 q.2.1 q.2.2.1 q.2.2.2.1 q.2.2.2.2.1 q.2.2.2.2.2) U) ∧
  va_AO "QuarterWalks$Shelf" U ∧ va_AO "QuarterWalks$StepSet" U ∧ va_AOA .int U ∧ va_AOA .long U ∧
  (∀ q ∈ str_r, vk_R q.1 q.2.1 q.2.2.1 (G (20 + q.2.2.2)) U) ∧ vk_S 12 str_len str_byt (fun i => G (20 + i)) (fun i => G (40 + i)) (hA b0) U H ∧
  vx_Zq Bundle.tN "UNASSIGNED_STACK" Bundle.steD (hA b0) U H ∧ vx_Zq Bundle.tN "SUPPRESSED_SENTINEL" Bundle.listD (hA b0) U H ∧
  (∀ q ∈ cast_l, va_Nw (.castable q.1 q.2) U) ∧ (∀ y ∈ decl_l, va_Nw (.declares y) U) ∧ hSt G b0 U H ∧ va_Zq "jdk/internal/util/Preconditions" "SIOOBE_FORMATTER" "Ljava/util/function/BiFunction;" (hA b0) U H ∧ hDg G b0 U H ∧ (∀ y ∈ sel_l, va_Nw (.selects "java/lang/StringBuilder" y y) U)
theorem hE.warm {D : va_G} {G : Nat → Nat} {b0 : Nat} {s U : State} {H : Heap} (hW : s.WarmedH U.vm) (h : hE D G b0 s H) : hE D G b0 U H := by
  obtain ⟨h1, h2, h3, h4, h5, h6, h7, h8, h9, h10, h11, h12, h13, h14, h15, h16, h17, h18⟩ := h
  exact ⟨h1.moved hW.alike, h2.moved hW.alike, fun q hq => (h3 q hq).warmM hW, fun q hq => (h4 q hq).warmF hW, h5.moved hW.alike, h6.moved hW.alike, h7.moved hW.alike, h8.moved hW.alike, fun q hq => (h9 q hq).warm hW, h10.moved hW.alike, h11.moved hW.alike, h12.moved hW.alike, fun q hq => (h13 q hq).warmC hW, fun q hq => (h14 q hq).warmD hW, fun i hi => ⟨(h15 i hi).1.moved hW.alike, (h15 i hi).2.moved hW.alike⟩, h16.moved hW.alike, ⟨h17.1.moved hW.alike, h17.2.moved hW.alike⟩, fun y hy => word_at hW (Or.inl rfl) (h18 y hy)⟩
theorem hE.same {D : va_G} {G : Nat → Nat} {b0 : Nat} {s U : State} {H : Heap} (hv : U.vm = s.vm) (h : hE D G b0 s H) : hE D G b0 U H := by
  have ha : s.vm.Alike U.vm := by rw [hv]; exact Vm.Alike.refl s.vm
  obtain ⟨h1, h2, h3, h4, h5, h6, h7, h8, h9, h10, h11, h12, h13, h14, h15, h16, h17, h18⟩ := h
  exact ⟨h1.moved ha, h2.moved ha, fun q hq => (h3 q hq).same rfl hv.symm, fun q hq => (h4 q hq).same rfl hv.symm, h5.moved ha, h6.moved ha, h7.moved ha, h8.moved ha, fun q hq => (h9 q hq).same hv, h10.moved ha, h11.moved ha, h12.moved ha, fun q hq => (h13 q hq).same rfl hv.symm, fun q hq => (h14 q hq).same rfl hv.symm, fun i hi => ⟨(h15 i hi).1.moved ha, (h15 i hi).2.moved ha⟩, h16.moved ha, ⟨h17.1.moved ha, h17.2.moved ha⟩, fun y hy => (h18 y hy).same rfl hv.symm⟩
theorem hE.kept {D : va_G} {G : Nat → Nat} {b0 : Nat} {s : State} {H H1 : Heap} (hq : ∀ a : Nat, a < H.size → ¬ hA b0 a → H1[a]? = H[a]?) (h : hE D G b0 s H) : hE D G b0 s H1 := by
  obtain ⟨h1, h2, h3, h4, h5, h6, h7, h8, h9, h10, h11, h12, h13, h14, h15, h16, h17, h18⟩ := h
  exact ⟨h1, h2.kept hq, h3, h4, h5, h6, h7, h8, h9, h10.kept hq, h11.kept hq, h12.kept hq, h13, h14, fun i hi => ⟨(h15 i hi).1.kept hq, (h15 i hi).2.kept hq⟩, h16.kept hq, ⟨h17.1.kept hq, h17.2.kept hq⟩, h18⟩
def hPre (D : va_G) (G : Nat → Nat) (b0 : Nat) (f : hM) (U : State) : Prop := hP D f U.heap ∧ (∀ a e, f a = some e → b0 ≤ a) ∧ b0 ≤ U.heap.size ∧ hE D G b0 U U.heap
def hPost (D : va_G) (b0 : Nat) (f : hM) (t : State) : Prop := hP D f t.heap ∧ ∀ a e, f a = some e → b0 ≤ a
/-- the world inside a method -/
def hw (D : va_G) (b0 : Nat) (H0 : Heap) (f : hM) (H : Heap) (locs : List Loc) : Prop := hP D f H ∧ (∀ a e, f a = some e → b0 ≤ a) ∧ va_S (hA b0) H0 H locs ∧ b0 ≤ H0.size
/-- the context inside a method -/
def hC (p : Program) (s : State) (m : MethodId) (args : Array Value) (meth : Method) (c : Code) (cc : ByteArray) (nL : Nat) (own : String) (D : va_G) (G : Nat → Nat) (b0 : Nat) : Prop :=
  p.tables.exec = Jvm.exec ∧ c.code = cc ∧ c.maxLocals = nL ∧ s.vm.findClass own = some m.cls ∧ (∀ w ∈ wAll, w.before args s = true) ∧ hE D G b0 s s.heap ∧ meth.locks = false
theorem hP.one {D : va_G} {f : hM} {H : Heap} (h : hP D f H) {a : Nat} {e : va_E} (ha : f a = some e) : va_P D vwCl [(a, e)] H := fun k q hk => by
  match k, hk with
  | 0, hk => cases hk; exact h a e ha
  | k + 1, hk => simp at hk
theorem hP.lt {D : va_G} {f : hM} {H : Heap} (h : hP D f H) {a : Nat} {e : va_E} (ha : f a = some e) : a < H.size := (h a e ha).lt
theorem hP.up {D : va_G} {f : hM} {H H1 : Heap} (h : hP D f H) {a : Nat} {e : va_E} (he : va_at D vwCl (a, e) H1) (oq : ∀ q : Nat, q ≠ a → H1[q]? = H[q]?) : hP D (hu f a e) H1 := fun b x hb => by
  by_cases hba : b = a
  · subst hba
    rw [hu_self] at hb
    cases hb
    exact he
  · rw [hu_ne hba] at hb
    exact (h b x hb).kept (oq b hba)
theorem hw.up {D : va_G} {b0 : Nat} {H0 : Heap} {f : hM} {H H1 : Heap} {locs : List Loc} (h : hw D b0 H0 f H locs) {a k : Nat} {e0 e : va_E} (ha : f a = some e0) (he : va_at D vwCl (a, e) H1) (z : H1.size = H.size) (oq : ∀ q : Nat, q ≠ a → H1[q]? = H[q]?) : hw D b0 H0 (hu f a e) H1 (locs ++ [⟨a, k⟩]) := by
  obtain ⟨h1, h2, h3, h4⟩ := h
  refine ⟨h1.up he oq, fun b x hb => ?_, h3.put z oq (h2 a e0 ha), h4⟩
  by_cases hba : b = a
  · rw [hba]; exact h2 a e0 ha
  · rw [hu_ne hba] at hb; exact h2 b x hb
theorem hw.new {D : va_G} {b0 : Nat} {H0 : Heap} {f : hM} {H H1 : Heap} {locs : List Loc} (h : hw D b0 H0 f H locs) {e : va_E} (he : va_at D vwCl (H.size, e) H1) (z : H.size ≤ H1.size) (oq : ∀ q : Nat, q < H.size → H1[q]? = H[q]?) : hw D b0 H0 (hu f H.size e) H1 locs ∧ f H.size = none := by
  obtain ⟨h1, h2, h3, h4⟩ := h
  have hn : f H.size = none := by
    cases hf : f H.size with
    | none => rfl
    | some x => exact absurd (h1.lt hf) (Nat.lt_irrefl _)
  refine ⟨⟨fun b x hb => ?_, fun b x hb => ?_, ⟨Nat.le_trans h3.1 z, fun q q1 q2 => (oq q (Nat.lt_of_lt_of_le q1 h3.1)).trans (h3.2.1 q q1 q2), h3.2.2⟩, h4⟩, hn⟩
  · by_cases hba : b = H.size
    · subst hba; rw [hu_self] at hb; cases hb; exact he
    · rw [hu_ne hba] at hb; exact (h1 b x hb).kept (oq b (h1.lt hb))
  · by_cases hba : b = H.size
    · rw [hba]; exact Nat.le_trans h4 h3.1
    · rw [hu_ne hba] at hb; exact h2 b x hb
/-- contracts: int, long, nothing, reference -/
abbrev mI (l : Launch) (y : MethodName) (cc : ByteArray) (n : Nat) (ty : FieldType) (rm : Room) (D : va_G) (G : Nat → Nat) (b0 : Nat) (f : hM) (av : List Value) (post : Int32 → hM → Prop) : Prop :=
  Met l y (Cond.code y cc n (some ty) :: wAll) rm (va_Pc av (hPre D G b0 f)) (va_Qi post (hPost D b0) (hA b0)) rm.cells rm.slots (hA b0)
abbrev mL (l : Launch) (y : MethodName) (cc : ByteArray) (n : Nat) (rm : Room) (D : va_G) (G : Nat → Nat) (b0 : Nat) (f : hM) (av : List Value) (post : Int64 → hM → Prop) : Prop :=
  Met l y (Cond.code y cc n (some .long) :: wAll) rm (va_Pc av (hPre D G b0 f)) (va_Ql post (hPost D b0) (hA b0)) rm.cells rm.slots (hA b0)
abbrev mV (l : Launch) (y : MethodName) (cc : ByteArray) (n : Nat) (rm : Room) (D : va_G) (G : Nat → Nat) (b0 : Nat) (f : hM) (av : List Value) (post : hM → Prop) : Prop :=
  Met l y (Cond.code y cc n none :: wAll) rm (va_Pc av (hPre D G b0 f)) (va_Qv post (hPost D b0) (hA b0)) rm.cells rm.slots (hA b0)
abbrev mQ (l : Launch) (y : MethodName) (cc : ByteArray) (n : Nat) (ty : FieldType) (rm : Room) (D : va_G) (G : Nat → Nat) (b0 : Nat) (f : hM) (av : List Value) (post : Option Nat → hM → Prop) : Prop :=
  Met l y (Cond.code y cc n (some ty) :: wAll) rm (va_Pc av (hPre D G b0 f)) (va_Qq post (hPost D b0) (hA b0)) rm.cells rm.slots (hA b0)
theorem met_of {l : Launch} {y : MethodName} {cc : ByteArray} {n : Nat} {ret : Option FieldType} {rm : Room} {D : va_G} {G : Nat → Nat} {b0 : Nat} {f : hM} {av : List Value} {Qc : Array Value → State → Outcome → State → Prop} {own : String} (hy : plainName y.cls = true) (ho : y.cls = own) (hlen : (lg_sl av).length ≤ n)
    (body : ∀ p e s m below meth c ls, hC p s m av.toArray meth c cc n own D G b0 → meth.sig.returnType = ret → meth.name = y.name → lv_has ls n (lv_args 0 av) → hw D b0 s.heap f s.heap [] → W p l e rm s m av.toArray below meth c s.heap [] 0 0 (MQ below Qc av.toArray s rm.cells rm.slots (hA b0)) (F0 m 0 ls [])) :
    Met l y (Cond.code y cc n ret :: wAll) rm (va_Pc av (hPre D G b0 f)) Qc rm.cells rm.slots (hA b0) := by
  refine Met.ofW (cc := cc) (maxL := n) (ret := ret) hy rfl ?_
  intro p e s m args below meth c s₁ B hml hv
  obtain ⟨rfl, hP0, hb, hz, hE0⟩ := hv
  have hts := atoms_spec (ws := Cond.code y cc n ret :: wAll) B.pre
  have hown : s.vm.findClass y.cls = some m.cls := findClass_of_methodNamed B.named
  rw [lg_entry_eq]
  refine body p e s m below meth c _ ⟨B.exec, B.bytes, hml, by rw [← ho]; exact hown, fun w hw => hts w (List.mem_cons_of_mem _ hw), hE0, B.notSynchronized⟩ B.returns ?_ (lv_entry av hlen) ⟨hP0, hb, va_S.rf, hz⟩
  exact (name_of_methodNamed B.named B.method).1
section HRows
variable {p : Program} {l : Launch} {e : Env} {R : Room} {s : State} {m : MethodId} {args : Array Value} {below : List Frame} {meth : Method} {c : Code} {H : Heap} {locs : List Loc} {cells slots : Nat} {Q : State → Prop}
variable {cc : ByteArray} {nL pc : Nat} {ls : Array Slot} {rest : List Value} {D : va_G} {G : Nat → Nat} {b0 a : Nat} {f : hM} {own : String} {H0 : Heap}
/-- a field's links: class ci of vwCl, place k -/
def fl (own : String) (index ci k : Nat) : Prop := ∃ (C : String) (T : u_T) (N : Nat), vwCl[ci]? = some (C, T, N) ∧ (∀ w ∈ u_ws C T N, w ∈ wAll) ∧ k < N ∧ Cond.fieldLink own index (T k).1 (T k).2.1 (T k).2.2.1 ∈ wAll
theorem q_get (C : hC p s m args meth c cc nL own D G b0) (h : hw D b0 H0 f H locs) {index ci k : Nat} {fs : List Value} {v : Value} (hf : f a = some (.inr (ci, fs))) (F : fl own index ci k) (hv : fs[k]? = some v) (hdg : decode cc pc = .ok (.getfield index, 3)) (kk : W p l e R s m args below meth c H locs cells slots Q (F0 m (pc + 3) ls (v :: rest))) : W p l e R s m args below meth c H locs cells slots Q (F0 m pc ls (.ref a :: rest)) := by
  obtain ⟨hx, hb, hml, hown, hts, hE0, -⟩ := C
  obtain ⟨Cn, T, N, hc, hin, hk, hlk⟩ := F
  exact va_get (D := D) (ws := [(a, .inr (ci, fs))]) hx hb hts hin hown hE0.1 (h.1.one hf) 0 rfl hc k hk (hts _ hlk) (fun _ h9 => h9) hv hdg kk
/-- a field that may be written -/
def flw (own : String) (index ci k : Nat) (ty : FieldType) : Prop := ∃ (C : String) (T : u_T) (N : Nat) (ty0 : Nat → FieldType), vwCl[ci]? = some (C, T, N) ∧ (∀ w ∈ u_ws C T N, w ∈ wAll) ∧ k < N ∧ Cond.fieldLink own index (T k).1 (T k).2.1 (T k).2.2.1 ∈ wAll ∧ (∀ k, k < N → parseFieldDescriptor (T k).2.2.1 = some (ty0 k)) ∧ (∀ a, a < N → ∀ b, b < N → a ≠ b → (T a).2.1 ≠ (T b).2.1) ∧ parseFieldDescriptor (T k).2.2.1 = some ty ∧ ((T k).2.2.2 = false ∨ ((T k).2.2.2 = true ∧ (T k).1 = own))
theorem q_put (C : hC p s m args meth c cc nL own D G b0) (h : hw D b0 H0 f H locs) {index ci k : Nat} {fs : List Value} {v : Value} {ty : FieldType} (hf : f a = some (.inr (ci, fs))) (F : flw own index ci k ty) (hini : meth.name = "<init>" ∨ (∃ (T : u_T) (Cn : String) (N : Nat), vwCl[ci]? = some (Cn, T, N) ∧ (T k).2.2.2 = false)) (hn : narrow ty v = v) (hfit : fits ty v = true) (hl : k < fs.length) (hdg : decode cc pc = .ok (.putfield index, 3))
    (kk : ∀ (H1 : Heap) (locs1 : List Loc), hw D b0 H0 (hu f a (.inr (ci, fs.set k v))) H1 locs1 → W p l e R s m args below meth c H1 locs1 cells slots Q (F0 m (pc + 3) ls rest)) : W p l e R s m args below meth c H locs cells slots Q (F0 m pc ls (v :: .ref a :: rest)) := by
  obtain ⟨hx, hb, hml, hown, hts, hE0, -⟩ := C
  obtain ⟨Cn, T, N, ty0, hc, hin, hk, hlink, hty, hnm, hd, hfin⟩ := F
  have hK := hE0.1
  have hap := va_apart (own := own) hts hin ty0 hty hnm hK hc
  obtain ⟨r, h1, cell, q1, q2, q3, q4⟩ := h.1 a _ hf
  have hr : r = (Cn, T, N) := Option.some.inj (h1.symm.trans hc)
  subst hr
  obtain ⟨hS, hfc, kC, hkC, hkind⟩ := hK.1 ci _ hc
  obtain ⟨cf, kf, fi, fd, hi, hsl⟩ := hS k hk
  have hst := (u_facts hfc hkC (u_lays hts hin hk) hi).1
  have hlay := hts _ (hin _ (u_in_lay hk))
  unfold u_lay at hlay
  by_cases hfb : (T k).2.2.2 = true
  · rw [if_pos hfb] at hlay
    have hdecl : (T k).1 = own := by
      rcases hfin with q | q
      · rw [hfb] at q; cases q
      · exact q.2
    have hin2 : meth.name = "<init>" := by
      rcases hini with q | ⟨T', Cn', N', q1, q2⟩
      · exact q
      · have := Option.some.inj (q1.symm.trans hc)
        cases this
        rw [hfb] at q2; cases q2
    have hcf : m.cls = cf := by
      obtain ⟨_, _, c', _, _, _, -, -, hf', -, -, -, hown2, -⟩ := Cond.laysFinal_spec hlay
      have e1 : c' = cf := by have := hi.symm.trans hf'; simp at this; exact this.1.symm
      rw [hdecl] at hown2
      rw [← e1]; exact Option.some.inj (hown.symm.trans hown2)
    have h6 := u_fits hfc hkC hkind (Or.inr hlay) hi hd hn hfit
    refine W.putFinK hx hb hown (hts _ hlink) hi hst hcf hin2 (by rw [q2]; exact h6) q1 q3 (by rw [hsl]; exact k2_hasslot (q4 k hk)) rfl rfl hdg fun H' e1 e2 e3 => ?_
    rw [hsl] at e1 ⊢
    exact kk H' _ (h.up hf ⟨_, hc, t_OB.to (V := updV (vp_V fs) k v) ⟨_, e1, q2, q3, t_set q4 hap hk v⟩ (fun j _ => vp_updV_set hl v j)⟩ e2 e3)
  · rw [if_neg hfb] at hlay
    have h6 := u_store hfc hkC hkind hlay hi hd hn hfit
    refine W.putK hx hb (f := fd) ⟨hown, hts _ hlink, ⟨_, _, _, hi⟩, hst⟩ (by rw [q2]; exact h6) q1 q3 (by rw [hsl]; exact k2_hasslot (q4 k hk)) rfl rfl hdg fun H' e1 e2 e3 => ?_
    rw [hsl] at e1 ⊢
    exact kk H' _ (h.up hf ⟨_, hc, t_OB.to (V := updV (vp_V fs) k v) ⟨_, e1, q2, q3, t_set q4 hap hk v⟩ (fun j _ => vp_updV_set hl v j)⟩ e2 e3)
theorem hgy1 (G : Nat → Nat) : (hgy G)[1]? = some (G 1, .int) := rfl
theorem q_iald (C : hC p s m args meth c cc nL own D G b0) (h : hw D b0 H0 f H locs) {n : Nat} {r : Nat → Int32} (hf : f a = some (.inl (G 1, n, .inl r))) {i : Int32} (hin : vp_in i n) (hdg : decode cc pc = .ok (.iaload, 1)) (kk : W p l e R s m args below meth c H locs cells slots Q (F0 m (pc + 1) ls (.int (r i.toNatClampNeg) :: rest))) : W p l e R s m args below meth c H locs cells slots Q (F0 m pc ls (.int i :: .ref a :: rest)) :=
  va_iald (ws := [(a, .inl (G 1, n, .inl r))]) C.1 C.2.1 C.2.2.2.2.2.1.1 (h.1.one hf) 0 1 rfl rfl hin hdg kk
theorem q_bald (C : hC p s m args meth c cc nL own D G b0) (h : hw D b0 H0 f H locs) {n : Nat} {r : Nat → Int32} (hf : f a = some (.inl (G 0, n, .inl r))) {i : Int32} (hin : vp_in i n) (hdg : decode cc pc = .ok (.baload, 1)) (kk : W p l e R s m args below meth c H locs cells slots Q (F0 m (pc + 1) ls (.int (r i.toNatClampNeg) :: rest))) : W p l e R s m args below meth c H locs cells slots Q (F0 m pc ls (.int i :: .ref a :: rest)) :=
  va_bald (ws := [(a, .inl (G 0, n, .inl r))]) C.1 C.2.1 C.2.2.2.2.2.1.1 (h.1.one hf) 0 0 rfl rfl hin hdg kk
theorem q_lald (C : hC p s m args meth c cc nL own D G b0) (h : hw D b0 H0 f H locs) {n : Nat} {r : Nat → Int64} (hf : f a = some (.inl (G 2, n, .inr (.inl r)))) {i : Int32} (hin : vp_in i n) (hdg : decode cc pc = .ok (.laload, 1)) (kk : W p l e R s m args below meth c H locs cells slots Q (F0 m (pc + 1) ls (.long (r i.toNatClampNeg) :: rest))) : W p l e R s m args below meth c H locs cells slots Q (F0 m pc ls (.int i :: .ref a :: rest)) :=
  va_lald (ws := [(a, .inl (G 2, n, .inr (.inl r)))]) C.1 C.2.1 C.2.2.2.2.2.1.1 (h.1.one hf) 0 2 rfl rfl hin hdg kk
theorem q_aald (C : hC p s m args meth c cc nL own D G b0) (h : hw D b0 H0 f H locs) (t0 : Nat) {cA : ClassId} {Cn : String} (ht : (hgy G)[t0]? = some (cA, .object Cn)) {n : Nat} {r : Nat → Option Nat} (hf : f a = some (.inl (cA, n, .inr (.inr (.inr (.inr r)))))) {i : Int32} (hin : vp_in i n) (hdg : decode cc pc = .ok (.aaload, 1)) (kk : W p l e R s m args below meth c H locs cells slots Q (F0 m (pc + 1) ls (va_rf (r i.toNatClampNeg) :: rest))) : W p l e R s m args below meth c H locs cells slots Q (F0 m pc ls (.int i :: .ref a :: rest)) :=
  va_aldq (ws := [(a, .inl (cA, n, .inr (.inr (.inr (.inr r)))))]) C.1 C.2.1 C.2.2.2.2.2.1.1 (h.1.one hf) 0 t0 rfl ht hin hdg kk
theorem q_alen (C : hC p s m args meth c cc nL own D G b0) (h : hw D b0 H0 f H locs) (t0 : Nat) {cA : ClassId} {ty : FieldType} (ht : (hgy G)[t0]? = some (cA, ty)) {x : vp_A} (hf : f a = some (.inl (cA, x))) {v : Int32} (hv : Int32.ofNat x.1 = v) (hdg : decode cc pc = .ok (.arraylength, 1)) (kk : W p l e R s m args below meth c H locs cells slots Q (F0 m (pc + 1) ls (.int v :: rest))) : W p l e R s m args below meth c H locs cells slots Q (F0 m pc ls (.ref a :: rest)) :=
  va_alen (ws := [(a, .inl (cA, x))]) C.1 C.2.1 C.2.2.2.2.2.1.1 (h.1.one hf) 0 t0 rfl ht hv hdg kk
theorem q_iast (C : hC p s m args meth c cc nL own D G b0) (h : hw D b0 H0 f H locs) {n : Nat} {r : Nat → Int32} (hf : f a = some (.inl (G 1, n, .inl r))) {i x : Int32} (hin : vp_in i n) (hdg : decode cc pc = .ok (.iastore, 1)) (kk : ∀ (H1 : Heap) (locs1 : List Loc), hw D b0 H0 (hu f a (.inl (G 1, n, .inl (upd r i.toNatClampNeg x)))) H1 locs1 → W p l e R s m args below meth c H1 locs1 cells slots Q (F0 m (pc + 1) ls rest)) : W p l e R s m args below meth c H locs cells slots Q (F0 m pc ls (.int x :: .int i :: .ref a :: rest)) := by
  refine W.iast C.1 C.2.1 (h.1 a _ hf) ((C.2.2.2.2.2.1.1.2 1 _ (hgy1 G)).1 n (fun j => .int (r j))) (fun q => by cases q) (by show ¬ (i < 0 ∨ (arrV _ _ _).slots.size ≤ _); rw [arrV_size]; exact hin) rfl rfl hdg fun H1 e z oq => ?_
  refine kk H1 _ (h.up hf ?_ z oq)
  show H1[a]? = some (vp_cell _ _)
  rw [e, vp_cell_i, vp_cell_i, arrV_store]
  congr 2
  funext q
  by_cases hq : q = i.toNatClampNeg
  · subst hq; simp [updV, upd]
  · simp [updV, upd, hq]
theorem q_bast (C : hC p s m args meth c cc nL own D G b0) (h : hw D b0 H0 f H locs) {n : Nat} {r : Nat → Int32} (hf : f a = some (.inl (G 0, n, .inl r))) {i x : Int32} (hin : vp_in i n) (hdg : decode cc pc = .ok (.bastore, 1)) (kk : ∀ (H1 : Heap) (locs1 : List Loc), hw D b0 H0 (hu f a (.inl (G 0, n, .inl (upd r i.toNatClampNeg (vp_nar .byte x))))) H1 locs1 → W p l e R s m args below meth c H1 locs1 cells slots Q (F0 m (pc + 1) ls rest)) : W p l e R s m args below meth c H locs cells slots Q (F0 m pc ls (.int x :: .int i :: .ref a :: rest)) := by
  refine W.bast C.1 C.2.1 (h.1 a _ hf) ((C.2.2.2.2.2.1.1.2 0 _ rfl).1 n (fun j => .int (r j))) (fun q => by cases q) (by show ¬ (i < 0 ∨ (arrV _ _ _).slots.size ≤ _); rw [arrV_size]; exact hin) rfl rfl hdg fun H1 e z oq => ?_
  refine kk H1 _ (h.up hf ?_ z oq)
  show H1[a]? = some (vp_cell _ _)
  rw [e, vp_cell_i, vp_cell_i, arrV_store]
  congr 2
  funext q
  by_cases hq : q = i.toNatClampNeg
  · subst hq; simp [updV, upd, vp_nar]; try rfl
  · simp [updV, upd, hq]
theorem q_last (C : hC p s m args meth c cc nL own D G b0) (h : hw D b0 H0 f H locs) {n : Nat} {r : Nat → Int64} (hf : f a = some (.inl (G 2, n, .inr (.inl r)))) {i : Int32} {x : Int64} (hin : vp_in i n) (hdg : decode cc pc = .ok (.lastore, 1)) (kk : ∀ (H1 : Heap) (locs1 : List Loc), hw D b0 H0 (hu f a (.inl (G 2, n, .inr (.inl (vp_updL r i.toNatClampNeg x))))) H1 locs1 → W p l e R s m args below meth c H1 locs1 cells slots Q (F0 m (pc + 1) ls rest)) : W p l e R s m args below meth c H locs cells slots Q (F0 m pc ls (.long x :: .int i :: .ref a :: rest)) := by
  refine W.last C.1 C.2.1 (h.1 a _ hf) ((C.2.2.2.2.2.1.1.2 2 _ rfl).1 n (fun j => .long (r j))) (fun q => by cases q) (by show ¬ (i < 0 ∨ (arrV _ _ _).slots.size ≤ _); rw [arrV_size]; exact hin) rfl rfl hdg fun H1 e z oq => ?_
  refine kk H1 _ (h.up hf ?_ z oq)
  show H1[a]? = some (vp_cell _ _)
  rw [e, vp_cell_l, vp_cell_l, arrV_store]
  congr 2
  funext q
  by_cases hq : q = i.toNatClampNeg
  · subst hq; simp [updV, vp_updL]
  · simp [updV, vp_updL, hq]
theorem q_aast (C : hC p s m args meth c cc nL own D G b0) (h : hw D b0 H0 f H locs) (t0 ci : Nat) {cA : ClassId} {rr : vw_C} (ht : (hgy G)[t0]? = some (cA, .object rr.1)) (hc : vwCl[ci]? = some rr) {n v : Nat} {vs : List Value} {r : Nat → Option Nat} (hf : f a = some (.inl (cA, n, .inr (.inr (.inr (.inr r)))))) (hv : f v = some (.inr (ci, vs))) {i : Int32} (hin : vp_in i n) (hdg : decode cc pc = .ok (.aastore, 1)) (kk : ∀ (H1 : Heap) (locs1 : List Loc), hw D b0 H0 (hu f a (.inl (cA, n, .inr (.inr (.inr (.inr (va_up r i.toNatClampNeg (some v)))))))) H1 locs1 → W p l e R s m args below meth c H1 locs1 cells slots Q (F0 m (pc + 1) ls rest)) : W p l e R s m args below meth c H locs cells slots Q (F0 m pc ls (.ref v :: .int i :: .ref a :: rest)) := by
  have hK := C.2.2.2.2.2.1.1
  have hlt : i.toNatClampNeg < n := Nat.not_le.mp fun q => hin (Or.inr q)
  have h0 : ¬ i < 0 := fun q => hin (Or.inl q)
  obtain ⟨r', hr', cellV, g1, g2, g3, -⟩ := h.1 v _ hv
  have hcls := (hK.1 ci rr hc).2
  obtain ⟨kA, comp, k1, k2, k3, -⟩ := (hK.2 t0 _ ht).2
  have hcomp : comp = D.1 ci := Option.some.inj (k3.symm.trans hcls.1)
  subst hcomp
  obtain ⟨kC, hkC, -⟩ := hcls.2
  refine W.aast C.1 C.2.1 (h.1 a _ hf) (fun q h => by cases h) (fun h => by cases h) k1 k2 rfl hkC ⟨h0, by show _ < (arrV _ _ _).slots.size; rw [arrV_size]; exact hlt⟩ g1 (fun q h => by rw [g3] at h; cases h) (by rw [g2]; exact hkC) (by rw [g2]; exact va_assign hcls) rfl rfl hdg fun H1 e z oq => ?_
  refine kk H1 _ (h.up hf ?_ z oq)
  show H1[a]? = some (vp_cell _ _)
  rw [e, vp_cell_q, vp_cell_q, arrV_store]
  congr 2
  funext q
  by_cases hq : q = i.toNatClampNeg
  · subst hq; simp [updV, va_up, va_rf]
  · simp [updV, va_up, hq]
theorem q_aastN (C : hC p s m args meth c cc nL own D G b0) (h : hw D b0 H0 f H locs) (t0 : Nat) {cA : ClassId} {Cn : String} (ht : (hgy G)[t0]? = some (cA, .object Cn)) {n : Nat} {r : Nat → Option Nat} (hf : f a = some (.inl (cA, n, .inr (.inr (.inr (.inr r)))))) {i : Int32} (hin : vp_in i n) (hdg : decode cc pc = .ok (.aastore, 1)) (kk : ∀ (H1 : Heap) (locs1 : List Loc), hw D b0 H0 (hu f a (.inl (cA, n, .inr (.inr (.inr (.inr (va_up r i.toNatClampNeg none))))))) H1 locs1 → W p l e R s m args below meth c H1 locs1 cells slots Q (F0 m (pc + 1) ls rest)) : W p l e R s m args below meth c H locs cells slots Q (F0 m pc ls (.null :: .int i :: .ref a :: rest)) := by
  refine va_WaastN (C := Cn) C.1 C.2.1 (h.1 a _ hf) ((C.2.2.2.2.2.1.1.2 t0 _ ht).1 n (fun j => va_rf (r j))) (fun h => by cases h) (by show ¬ (i < 0 ∨ (arrV _ _ _).slots.size ≤ _); rw [arrV_size]; exact hin) rfl rfl hdg fun H1 e z oq => ?_
  refine kk H1 _ (h.up hf ?_ z oq)
  show H1[a]? = some (vp_cell _ _)
  rw [e, vp_cell_q, vp_cell_q, arrV_store]
  congr 2
  funext q
  by_cases hq : q = i.toNatClampNeg
  · subst hq; simp [updV, va_up, va_rf]
  · simp [updV, va_up, hq]
/-- a class that can be made -/
def nw (own : String) (index ci N : Nat) (fs : List Value) : Prop := ∃ (C : String) (T : u_T) (ty0 : Nat → FieldType), vwCl[ci]? = some (C, T, N) ∧ (∀ w ∈ u_ws C T N, w ∈ wAll) ∧ (∀ k, k < N → parseFieldDescriptor (T k).2.2.1 = some (ty0 k)) ∧ Cond.classLink own index C ∈ wAll ∧ Cond.instantiable C N ∈ wAll ∧ Cond.initialized C ∈ wAll ∧ ∀ j, j < N → defaultValue (ty0 j) = vp_V fs j
theorem q_new (C : hC p s m args meth c cc nL own D G b0) (h : hw D b0 H0 f H locs) {index ci N : Nat} {fs : List Value} (F : nw own index ci N fs) (hcells : cells + 1 ≤ R.cells) (hslots : slots + N ≤ R.slots) (hdg : decode cc pc = .ok (.new index, 3))
    (kk : ∀ (q : Nat) (H1 : Heap), f q = none → hw D b0 H0 (hu f q (.inr (ci, fs))) H1 locs → W p l e R s m args below meth c H1 locs (cells + 1) (slots + N) Q (F0 m (pc + 3) ls (.ref q :: rest))) : W p l e R s m args below meth c H locs cells slots Q (F0 m pc ls rest) := by
  obtain ⟨hx, hb, hml, hown, hts, hE0, -⟩ := C
  obtain ⟨Cn, T, ty0, hc, hin, hty, w1, w2, w3, hfs⟩ := F
  have hKn := hE0.1.1 ci _ hc
  refine W.newcK hx hb hown (hts _ w1) (hts _ w2) (hts _ w3) rfl hdg hcells hslots hKn.2.1 rfl fun H1 kC hkC e1 z1 o1 => ?_
  obtain ⟨h1, h2⟩ := h.new (H1 := H1) (e := .inr (ci, fs)) ⟨_, hc, (u_born ty0 hts hin hKn hkC e1 hty).to hfs⟩ (by omega) o1
  exact kk H.size H1 h2 h1
theorem q_newa (C : hC p s m args meth c cc nL own D G b0) (h : hw D b0 H0 f H locs) {atype : ArrayType} (t0 : Nat) {cA : ClassId} {ty : FieldType} (hty : newarray.typeOf atype = ty) (ht : (hgy G)[t0]? = some (cA, ty)) (hprim : refKind ty = false) (harr : Cond.arrayClass ty ∈ wAll) {n : Int32} {N' : Nat} {a0 : vp_A} (ha : ∀ cA : ClassId, vp_cell cA a0 = arrV cA N' (fun _ => defaultValue ty)) (hn : ¬ n < 0) (hN : n.toNatClampNeg = N') (hbytes : N' * componentBytes ty ≤ 536870912) (hcells : cells + 1 ≤ R.cells) (hslots : slots + N' ≤ R.slots) (hdg : decode cc pc = .ok (.newarray atype, 2))
    (kk : ∀ (q : Nat) (H1 : Heap), f q = none → hw D b0 H0 (hu f q (.inl (cA, a0))) H1 locs → W p l e R s m args below meth c H1 locs (cells + 1) (slots + N') Q (F0 m (pc + 2) ls (.ref q :: rest))) : W p l e R s m args below meth c H locs cells slots Q (F0 m pc ls (.int n :: rest)) := by
  subst hty
  obtain ⟨hx, hb, hml, hown, hts, hE0, -⟩ := C
  refine va_newaK hx hb (hts _ harr) rfl hdg rfl hn hN hbytes hcells hslots rfl fun H1 cB e1 z1 o1 hAr hNm => ?_
  have hra := (hE0.1.2 t0 _ ht).2
  have hcb : cB = cA := by
    cases atype <;> exact Option.some.inj (hNm.symm.trans hra)
  subst hcb
  obtain ⟨h1, h2⟩ := h.new (H1 := H1) (e := .inl (cB, a0)) (by show H1[H.size]? = some (vp_cell _ _); rw [ha]; exact e1) (by omega) o1
  exact kk H.size H1 h2 h1
theorem q_newq (C : hC p s m args meth c cc nL own D G b0) (h : hw D b0 H0 f H locs) (t0 : Nat) {cA : ClassId} {Cn : String} {index : Nat} (ht : (hgy G)[t0]? = some (cA, .object Cn)) (hclink : Cond.classLink own index Cn ∈ wAll) (hover : va_AO Cn s) {n : Int32} {N' : Nat} (hn : ¬ n < 0) (hN : n.toNatClampNeg = N') (hbytes : N' * 4 ≤ 536870912) (hcells : cells + 1 ≤ R.cells) (hslots : slots + N' ≤ R.slots) (hdg : decode cc pc = .ok (.anewarray index, 3))
    (kk : ∀ (q : Nat) (H1 : Heap), f q = none → hw D b0 H0 (hu f q (.inl (cA, N', .inr (.inr (.inr (.inr (fun _ => none))))))) H1 locs → W p l e R s m args below meth c H1 locs (cells + 1) (slots + N') Q (F0 m (pc + 3) ls (.ref q :: rest))) : W p l e R s m args below meth c H locs cells slots Q (F0 m pc ls (.int n :: rest)) := by
  subst hN
  obtain ⟨hx, hb, hml, hown, hts, hE0, -⟩ := C
  refine W.anew hx hb hown (hts _ hclink) (va_AO.use hover) rfl hdg rfl hn hbytes hcells hslots fun cB kA comp f1 f2 f3 f4 => ?_
  have hra := (hE0.1.2 t0 _ ht).2
  obtain ⟨_, _, _, _, _, hra⟩ := hra
  have hcb : cB = cA := Option.some.inj (f1.symm.trans hra)
  subst hcb
  generalize hH1 : H.push ({ cls := cB, slots := Array.replicate n.toNatClampNeg .null, vm := .none } : Cell) = H1
  have z1 : H1.size = H.size + 1 := by rw [← hH1, Array.size_push]
  have e1 : H1[H.size]? = some (arrV cB n.toNatClampNeg (fun _ => .null)) := by rw [← hH1, Array.getElem?_push_size, ← arrV_new]
  have o1 : ∀ q : Nat, q < H.size → H1[q]? = H[q]? := fun q hq => by rw [← hH1, Array.getElem?_push, if_neg (Nat.ne_of_lt hq)]
  obtain ⟨h1, h2⟩ := h.new (H1 := H1) (e := .inl (cB, n.toNatClampNeg, .inr (.inr (.inr (.inr (fun _ => none)))))) (by show H1[H.size]? = some (vp_cell _ _); rw [vp_cell_q]; exact e1) (by omega) o1
  exact kk H.size H1 h2 h1
def hmn (f : hM) (q N : Nat) (eo ei : va_E) : hM := fun a => if a = q then some eo else if q < a ∧ a ≤ q + N then some ei else f a
theorem hmn_old {f : hM} {q N a : Nat} {eo ei v : va_E} (hn : ∀ a, q ≤ a → f a = none) (h : f a = some v) : hmn f q N eo ei a = some v := by
  have : a < q := Nat.lt_of_not_le (fun z => by rw [hn a z] at h; cases h)
  unfold hmn
  rw [if_neg (by omega), if_neg (by omega)]; exact h
theorem hmn_self {f : hM} {q N : Nat} {eo ei : va_E} : hmn f q N eo ei q = some eo := if_pos rfl
theorem ol_mna {x q N : Nat} {f0 f g : hM} {eo ei : va_E} (e : hmn f q N eo ei = g) (hn : ∀ a, q ≤ a → f a = none) (o : Ol x f0 f) : Ol x f0 g := fun a h1 h2 => by
  have h3 := o a h1 h2
  have : a < q := Nat.lt_of_not_le (fun z => by rw [hn a z] at h3; exact h2 h3.symm)
  rw [← e]; unfold hmn
  rw [if_neg (by omega), if_neg (by omega)]; exact h3
theorem q_mna (C : hC p s m args meth c cc nL own D G b0) (h : hw D b0 H0 f H locs) {index : Nat} {ty : FieldType} (t0 t1 : Nat) {cA cI : ClassId} (ht0 : (hgy G)[t0]? = some (cA, .array ty)) (hcA : va_RA s cA (.array ty) → s.vm.findClass ("[" ++ (FieldType.array ty).toString) = some cA) (hcI : s.vm.findClass (FieldType.array ty).toString = some cI) (hclink : Cond.classLink own index ("[" ++ (FieldType.array ty).toString) ∈ wAll) (hover : va_AOA ty s) (harr : Cond.arrayClass ty ∈ wAll) {n k : Int32} {N' K' : Nat} {z : vp_A} (hn : ¬ n < 0) (hk : ¬ k < 0) (hN : n.toNatClampNeg = N') (hM : k.toNatClampNeg = K')
    (hb1 : N' * 4 ≤ 536870912) (hb2 : K' * componentBytes ty ≤ 536870912) (hb3 : K' ≤ 536870912) (hdf : fits ty (defaultValue ty) = true) (hdd : (defaultValue ty).isDefault = true) (hcells : cells + (1 + N') ≤ R.cells) (hslots : slots + (N' + N' * K') ≤ R.slots) (hz : ∀ c : ClassId, Jvm.Free.Multi.innerC c K' (defaultValue ty) = vp_cell c z) (hdg : decode cc pc = .ok (.multianewarray index 2, 4))
    (kk : ∀ (q : Nat) (H1 : Heap), (∀ a, q ≤ a → f a = none) → hw D b0 H0 (hmn f q N' (.inl (cA, N', .inr (.inr (.inr (.inr (fun i => if i < N' then some (q + 1 + i) else none)))))) (.inl (cI, z))) H1 locs → W p l e R s m args below meth c H1 locs (cells + 1 + N') (slots + N' + N' * K') Q (F0 m (pc + 4) ls (.ref q :: rest))) : W p l e R s m args below meth c H locs cells slots Q (F0 m pc ls (.int k :: .int n :: rest)) := by
  subst hN
  subst hM
  obtain ⟨hx, hb, hml, hown, hts, hE0, -⟩ := C
  intro T hT Xs
  obtain ⟨vm₁, cB, comp, -, fA, fC, hO, -, X', step⟩ := Xs.multianewarray2F hx hown (hts _ hclink) (va_AOA.use hover) (hts _ harr) (g := F0 m pc ls (.int k :: .int n :: rest)) rfl (by rw [hb]; exact hdg) rfl hn hk hb1 hb2 hb3 hdf hdd hcells hslots
  have ec : some cI = some comp := hcI.symm.trans fC
  cases ec
  have eA : some cA = some cB := (hcA (hE0.1.2 t0 _ ht0).2).symm.trans fA
  cases eA
  generalize hF : Jvm.Free.Multi.fill (T.setVm vm₁) cA cI n.toNatClampNeg k.toNatClampNeg (defaultValue ty) n.toNatClampNeg = F at X' step
  have hTh : (T.setVm vm₁).heap = H := hT
  obtain ⟨f1, f2, -, -⟩ := Jvm.Free.Multi.fill_facts (T.setVm vm₁) cA cI n.toNatClampNeg k.toNatClampNeg (defaultValue ty) n.toNatClampNeg
  rw [hF, hTh] at f1 f2
  have hold : ∀ x : Nat, x < H.size → F.heap[x]? = H[x]? := fun x hx => by
    have := Jvm.Free.Multi.fill_old (T.setVm vm₁) cA cI n.toNatClampNeg k.toNatClampNeg (defaultValue ty) (a := x) (by rw [hTh]; exact hx) n.toNatClampNeg
    rw [hF, hTh] at this
    exact this
  have hrow : ∀ j : Nat, j < n.toNatClampNeg → F.heap[H.size + 1 + j]? = some (vp_cell cI z) := fun j hj => by
    have := Jvm.Free.Multi.fill_inner (T.setVm vm₁) cA cI n.toNatClampNeg k.toNatClampNeg (defaultValue ty) n.toNatClampNeg j hj
    rw [hF, hTh, hz] at this
    exact this
  have hout : Jvm.Free.Multi.outerC cA n.toNatClampNeg H.size n.toNatClampNeg = vp_cell cA (n.toNatClampNeg, .inr (.inr (.inr (.inr (fun i => if i < n.toNatClampNeg then some (H.size + 1 + i) else none))))) := by
    rw [vp_cell_q]
    exact vr_outer cA n.toNatClampNeg H.size n.toNatClampNeg
  rw [hout] at f2
  obtain ⟨h1, h2, h3, h4⟩ := h
  have hnone : ∀ a, H.size ≤ a → f a = none := fun a ha => by
    cases hf : f a with
    | none => rfl
    | some x => have := h1.lt hf; omega
  have hlt : ∀ a x, f a = some x → a < H.size := fun a x ha => h1.lt ha
  obtain ⟨t, a1, b1⟩ := kk H.size F.heap hnone ⟨fun a x ha => by
      unfold hmn at ha
      by_cases e1 : a = H.size
      · rw [if_pos e1] at ha; cases ha; subst e1; exact f2
      · rw [if_neg e1] at ha
        by_cases e2 : H.size < a ∧ a ≤ H.size + n.toNatClampNeg
        · rw [if_pos e2] at ha; cases ha
          have := hrow (a - (H.size + 1)) (by omega)
          rw [show H.size + 1 + (a - (H.size + 1)) = a by omega] at this
          exact this
        · rw [if_neg e2] at ha
          exact (h1 a x ha).kept (hold a (h1.lt ha)), fun a x ha => by
      unfold hmn at ha
      by_cases e1 : a = H.size
      · have := h3.1; omega
      · rw [if_neg e1] at ha
        by_cases e2 : H.size < a ∧ a ≤ H.size + n.toNatClampNeg
        · have := h3.1; omega
        · rw [if_neg e2] at ha; exact h2 a x ha, ⟨by rw [f1]; have := h3.1; omega, fun x q1 q2 => (hold x (Nat.lt_of_lt_of_le q1 h3.1)).trans (h3.2.1 x q1 q2), h3.2.2⟩, h4⟩ F rfl X'
  refine ⟨t, step t ?_, b1⟩
  have e : T.heap.size = H.size := by rw [hT]
  rw [e]
  exact a1
theorem q_iret (C : hC p s m args meth c cc nL own D G b0) (h : hw D b0 s.heap f H locs) (hr : meth.sig.returnType = some .int) {post : Int32 → hM → Prop} {v : Int32} {mc ms : Nat} (hp : post v f) (hc : cells ≤ mc) (hs : slots ≤ ms) (hdg : decode cc pc = .ok (.ireturn, 1)) : W p l e R s m args below meth c H locs cells slots (MQ below (va_Qi post (hPost D b0) (hA b0)) args s mc ms (hA b0)) (F0 m pc ls [.int v]) := by
  refine W.widen hc hs ?_
  exact W.iret C.1 C.2.1 hr (fun t ht hW => ⟨⟨v, f, rfl, hp, by rw [ht]; exact h.1, h.2.1⟩, h.2.2.1.F ht⟩) h.2.2.1.2.2 hdg C.2.2.2.2.2.2
theorem q_zret (C : hC p s m args meth c cc nL own D G b0) (h : hw D b0 s.heap f H locs) (hr : meth.sig.returnType = some .boolean) {post : Int32 → hM → Prop} {v : Int32} {mc ms : Nat} (hv : v = 0 ∨ v = 1) (hp : post v f) (hc : cells ≤ mc) (hs : slots ≤ ms) (hdg : decode cc pc = .ok (.ireturn, 1)) : W p l e R s m args below meth c H locs cells slots (MQ below (va_Qi post (hPost D b0) (hA b0)) args s mc ms (hA b0)) (F0 m pc ls [.int v]) := by
  refine W.widen hc hs ?_
  exact W.zret C.1 C.2.1 hr (by rcases hv with rfl | rfl <;> rfl) (fun t ht hW => ⟨⟨v, f, rfl, hp, by rw [ht]; exact h.1, h.2.1⟩, h.2.2.1.F ht⟩) h.2.2.1.2.2 hdg C.2.2.2.2.2.2
theorem q_bret (C : hC p s m args meth c cc nL own D G b0) (h : hw D b0 s.heap f H locs) {ty : FieldType} (hr : meth.sig.returnType = some ty) {post : Int32 → hM → Prop} {v : Int32} {mc ms : Nat} (hn : narrow ty (.int v) = .int v) (hp : post v f) (hc : cells ≤ mc) (hs : slots ≤ ms) (hdg : decode cc pc = .ok (.ireturn, 1)) : W p l e R s m args below meth c H locs cells slots (MQ below (va_Qi post (hPost D b0) (hA b0)) args s mc ms (hA b0)) (F0 m pc ls [.int v]) := by
  refine W.widen hc hs ?_
  exact W.zret C.1 C.2.1 hr hn (fun t ht hW => ⟨⟨v, f, rfl, hp, by rw [ht]; exact h.1, h.2.1⟩, h.2.2.1.F ht⟩) h.2.2.1.2.2 hdg C.2.2.2.2.2.2
theorem q_lret (C : hC p s m args meth c cc nL own D G b0) (h : hw D b0 s.heap f H locs) (hr : meth.sig.returnType = some .long) {post : Int64 → hM → Prop} {v : Int64} {mc ms : Nat} (hp : post v f) (hc : cells ≤ mc) (hs : slots ≤ ms) (hdg : decode cc pc = .ok (.lreturn, 1)) : W p l e R s m args below meth c H locs cells slots (MQ below (va_Ql post (hPost D b0) (hA b0)) args s mc ms (hA b0)) (F0 m pc ls [.long v]) := by
  refine W.widen hc hs ?_
  exact W.lret C.1 C.2.1 hr (fun t ht hW => ⟨⟨v, f, rfl, hp, by rw [ht]; exact h.1, h.2.1⟩, h.2.2.1.F ht⟩) h.2.2.1.2.2 hdg C.2.2.2.2.2.2
theorem q_vret (C : hC p s m args meth c cc nL own D G b0) (h : hw D b0 s.heap f H locs) (hr : meth.sig.returnType = none) {post : hM → Prop} {mc ms : Nat} (hp : post f) (hc : cells ≤ mc) (hs : slots ≤ ms) (hdg : decode cc pc = .ok (.return_, 1)) : W p l e R s m args below meth c H locs cells slots (MQ below (va_Qv post (hPost D b0) (hA b0)) args s mc ms (hA b0)) (F0 m pc ls []) := by
  refine W.widen hc hs ?_
  exact W.vret C.1 C.2.1 hr (fun t ht hW => ⟨⟨f, rfl, hp, by rw [ht]; exact h.1, h.2.1⟩, h.2.2.1.F ht⟩) h.2.2.1.2.2 hdg C.2.2.2.2.2.2
theorem q_aret (C : hC p s m args meth c cc nL own D G b0) (h : hw D b0 s.heap f H locs) {rt : FieldType} (hr : meth.sig.returnType = some rt) (hrt : (∃ n, rt = .object n) ∨ ∃ t, rt = .array t) {post : Option Nat → hM → Prop} {v : Option Nat} {mc ms : Nat} (hp : post v f) (hc : cells ≤ mc) (hs : slots ≤ ms) {w : Value} (hw0 : w = va_rf v) (hdg : decode cc pc = .ok (.areturn, 1)) : W p l e R s m args below meth c H locs cells slots (MQ below (va_Qq post (hPost D b0) (hA b0)) args s mc ms (hA b0)) (F0 m pc ls [w]) := by
  subst hw0
  refine W.widen hc hs ?_
  exact W.aret C.1 C.2.1 hr hrt (va_rf_or v) (fun t ht hW => ⟨⟨v, f, rfl, hp, by rw [ht]; exact h.1, h.2.1⟩, h.2.2.1.F ht⟩) h.2.2.1.2.2 hdg C.2.2.2.2.2.2
/-- the pre of a callee, out of the caller's world -/
theorem hPre_blind (av : List Value) : FrameBlind (va_Pc av (hPre D G b0 f)) := fun a U g mk q => by
  obtain ⟨q0, q1, q2, q3, q4⟩ := q
  exact ⟨q0, q1, q2, q3, hE.same (s := U) (U := U.calling g mk a) rfl q4⟩
theorem hPre_of (C : hC p s m args meth c cc nL own D G b0) (h : hw D b0 s.heap f H locs) (av : List Value) : ∀ U : State, U.heap = H → s.WarmedH U.vm → va_Pc av (hPre D G b0 f) av.toArray U := fun U hU hW => by
  refine ⟨rfl, by rw [hU]; exact h.1, h.2.1, by rw [hU]; exact Nat.le_trans h.2.2.2 h.2.2.1.1, ?_⟩
  rw [hU]
  exact (C.2.2.2.2.2.1.kept h.2.2.1.2.1).warm hW
theorem wAll_in {y : MethodName} {bytes : ByteArray} {n : Nat} {ret : Option FieldType} (h : Cond.code y bytes n ret ∈ wAll) : GoodIn wAll (Cond.code y bytes n ret :: wAll) := fun w hw => by
  rcases List.mem_cons.mp hw with rfl | q
  · exact ⟨h, wAll_good _ h⟩
  · exact ⟨q, wAll_good _ q⟩
/-- a method's own facts -/
def mk (y : MethodName) (n : Nat) : Prop := (y.cls ≠ "java/lang/invoke/MethodHandle" ∧ y.cls ≠ "java/lang/invoke/VarHandle" ∧ (parseMethodDescriptor y.desc).map (fun d => d.parameters.length) = some n) ∧ Cond.initialized y.cls ∈ wAll
theorem r_V (C : hC p s m args meth c cc nL own D G b0) (h : hw D b0 s.heap f H locs) {lv0 : List (Nat × Value)} (hl : lv_has ls nL lv0) {y : MethodName} {bytes : ByteArray} {maxL n ci : Nat} {ret : Option FieldType} {rm : Room} {index : Nat} {As : List Value} {Qc : Array Value → State → Outcome → State → Prop} {fs : List Value} {Cn : String} {T : u_T} {N : Nat} (hM : Met l y (Cond.code y bytes maxL ret :: wAll) rm (va_Pc (.ref a :: As) (hPre D G b0 f)) Qc rm.cells rm.slots (hA b0)) (hf : f a = some (.inr (ci, fs))) (hc : vwCl[ci]? = some (Cn, T, N)) (hcn : y.cls = Cn) (hmk : mk y n) (w1 : Cond.methodLink own index y ∈ wAll) (w2 : Cond.instanceMethod y ∈ wAll) (w3 : Cond.selects y.cls y y ∈ wAll) (w4 : Cond.code y bytes maxL ret ∈ wAll) (hR : rm.frames + 1 ≤ R.frames ∧ 8 + (maxL + 11) + rm.locals ≤ R.locals) (hn : As.length = n) (hrest : (rest.map fun v => v.category).sum ≤ 8) (hcs : cells + rm.cells ≤ R.cells ∧ slots + rm.slots ≤ R.slots) {st0 : List Value} (hst : st0 = As.reverse ++ .ref a :: rest) (hdg : decode cc pc = .ok (.invokevirtual index, 3)) :
    va_Run p l e R s m args below meth c H locs cells slots rm.cells rm.slots (F0 m pc ls st0) rest (Qc (Value.ref a :: As).toArray) (hA b0) := by
  subst hcn
  have hts := C.2.2.2.2.1
  exact va_runV (Ts := wAll) (own := own) (C := y.cls) (bytes := bytes) (maxL := maxL) (ret := ret) ⟨C.1, C.2.1, C.2.2.1, C.2.2.2.1, hts⟩ hM ⟨callB_of n hts (wAll_in w4) rfl rfl rfl (hts _ hmk.2) (hts _ w1) hmk.1 hR, hts _ w2, hts _ w3⟩ ⟨hPre_blind _, va_recv C.2.2.2.2.2.1.1 (h.1.one hf) hc (q0 := 0) rfl, hPre_of C h _⟩ rfl hn hl.1 hst (lv_room (m := m) (pc := pc) (ls := ls) (rest := st0) hrest) hdg hcs
theorem r_VK (C : hC p s m args meth c cc nL own D G b0) (h : hw D b0 s.heap f H locs) {lv0 : List (Nat × Value)} (hl : lv_has ls nL lv0) {y : MethodName} {bytes : ByteArray} {maxL n : Nat} {ret : Option FieldType} {rm : Room} {index : Nat} {As : List Value} {Qc : Array Value → State → Outcome → State → Prop} (hM : Met l y (Cond.code y bytes maxL ret :: wAll) rm (va_Pc (.ref a :: As) (hPre D G b0 f)) Qc rm.cells rm.slots (hA b0)) (hrec : ∃ cell : Cell, H[a]? = some cell ∧ cell.vm.isStatics = false ∧ s.vm.findClass y.cls = some cell.cls) (hmk : mk y n) (w1 : Cond.methodLink own index y ∈ wAll) (w2 : Cond.instanceMethod y ∈ wAll) (w3 : Cond.selects y.cls y y ∈ wAll) (w4 : Cond.code y bytes maxL ret ∈ wAll) (hR : rm.frames + 1 ≤ R.frames ∧ 8 + (maxL + 11) + rm.locals ≤ R.locals) (hn : As.length = n) (hrest : (rest.map fun v => v.category).sum ≤ 8) (hcs : cells + rm.cells ≤ R.cells ∧ slots + rm.slots ≤ R.slots) {st0 : List Value} (hst : st0 = As.reverse ++ .ref a :: rest) (hdg : decode cc pc = .ok (.invokevirtual index, 3)) :
    va_Run p l e R s m args below meth c H locs cells slots rm.cells rm.slots (F0 m pc ls st0) rest (Qc (Value.ref a :: As).toArray) (hA b0) := by
  have hts := C.2.2.2.2.1
  exact va_runV (Ts := wAll) (own := own) (C := y.cls) (bytes := bytes) (maxL := maxL) (ret := ret) ⟨C.1, C.2.1, C.2.2.1, C.2.2.2.1, hts⟩ hM ⟨callB_of n hts (wAll_in w4) rfl rfl rfl (hts _ hmk.2) (hts _ w1) hmk.1 hR, hts _ w2, hts _ w3⟩ ⟨hPre_blind _, hrec, hPre_of C h _⟩ rfl hn hl.1 hst (lv_room (m := m) (pc := pc) (ls := ls) (rest := st0) hrest) hdg hcs
theorem r_VN (C : hC p s m args meth c cc nL own D G b0) (h : hw D b0 s.heap f H locs) {lv0 : List (Nat × Value)} (hl : lv_has ls nL lv0) {y : MethodName} {bytes : ByteArray} {maxL n ci : Nat} {ret : Option FieldType} {rm : Room} {index : Nat} {As : List Value} {Qc : Array Value → State → Outcome → State → Prop} {fs : List Value} {Cn host : String} {T : u_T} {N : Nat} (hM : Met l y (Cond.code y bytes maxL ret :: wAll) rm (va_Pc (.ref a :: As) (hPre D G b0 f)) Qc rm.cells rm.slots (hA b0)) (hf : f a = some (.inr (ci, fs))) (hc : vwCl[ci]? = some (Cn, T, N)) (hcn : y.cls = Cn) (hmk : mk y n) (w1 : (own, index, y, host) ∈ nest_m) (w2 : Cond.instanceMethod y ∈ wAll) (w3 : Cond.selects y.cls y y ∈ wAll) (w4 : Cond.code y bytes maxL ret ∈ wAll) (hR : rm.frames + 1 ≤ R.frames ∧ 8 + (maxL + 11) + rm.locals ≤ R.locals) (hn : As.length = n) (hrest : (rest.map fun v => v.category).sum ≤ 8) (hcs : cells + rm.cells ≤ R.cells ∧ slots + rm.slots ≤ R.slots) {st0 : List Value} (hst : st0 = As.reverse ++ .ref a :: rest) (hdg : decode cc pc = .ok (.invokevirtual index, 3)) :
    va_Run p l e R s m args below meth c H locs cells slots rm.cells rm.slots (F0 m pc ls st0) rest (Qc (Value.ref a :: As).toArray) (hA b0) := by
  subst hcn
  have hts := C.2.2.2.2.1
  exact va_runVN (Ts := wAll) (own := own) (C := y.cls) (host := host) (bytes := bytes) (maxL := maxL) (ret := ret) ⟨C.1, C.2.1, C.2.2.1, C.2.2.2.1, hts⟩ hM ⟨va_cnB n hts (wAll_in w4) rfl rfl rfl (C.2.2.2.2.2.1.2.2.1 _ w1) (hts _ hmk.2) hmk.1 hR, hts _ w2, hts _ w3⟩ ⟨hPre_blind _, va_recv C.2.2.2.2.2.1.1 (h.1.one hf) hc (q0 := 0) rfl, hPre_of C h _⟩ rfl hn hl.1 hst (lv_room (m := m) (pc := pc) (ls := ls) (rest := st0) hrest) hdg hcs
theorem r_S (C : hC p s m args meth c cc nL own D G b0) (h : hw D b0 s.heap f H locs) {lv0 : List (Nat × Value)} (hl : lv_has ls nL lv0) {y : MethodName} {bytes : ByteArray} {maxL n : Nat} {ret : Option FieldType} {rm : Room} {index : Nat} {As : List Value} {Qc : Array Value → State → Outcome → State → Prop} (hM : Met l y (Cond.code y bytes maxL ret :: wAll) rm (va_Pc As (hPre D G b0 f)) Qc rm.cells rm.slots (hA b0)) (hmk : mk y n) (w1 : Cond.methodLink own index y ∈ wAll) (w2 : Cond.static y ∈ wAll) (w4 : Cond.code y bytes maxL ret ∈ wAll) (hR : rm.frames + 1 ≤ R.frames ∧ 8 + (maxL + 11) + rm.locals ≤ R.locals) (hn : As.length = n) (hrest : (rest.map fun v => v.category).sum ≤ 8) (hcs : cells + rm.cells ≤ R.cells ∧ slots + rm.slots ≤ R.slots) {st0 : List Value} (hst : st0 = As.reverse ++ rest) (hdg : decode cc pc = .ok (.invokestatic index, 3)) :
    va_Run p l e R s m args below meth c H locs cells slots rm.cells rm.slots (F0 m pc ls st0) rest (Qc As.toArray) (hA b0) := by
  have hts := C.2.2.2.2.1
  exact va_runS (Ts := wAll) (own := own) (bytes := bytes) (maxL := maxL) (ret := ret) ⟨C.1, C.2.1, C.2.2.1, C.2.2.2.1, hts⟩ hM ⟨callB_of n hts (wAll_in w4) rfl rfl rfl (hts _ hmk.2) (hts _ w1) hmk.1 hR, hts _ w2⟩ ⟨hPre_blind _, hPre_of C h _⟩ rfl hn hl.1 hst (lv_room (m := m) (pc := pc) (ls := ls) (rest := st0) hrest) hdg hcs
theorem r_SN (C : hC p s m args meth c cc nL own D G b0) (h : hw D b0 s.heap f H locs) {lv0 : List (Nat × Value)} (hl : lv_has ls nL lv0) {y : MethodName} {bytes : ByteArray} {maxL n : Nat} {ret : Option FieldType} {rm : Room} {index : Nat} {host : String} {As : List Value} {Qc : Array Value → State → Outcome → State → Prop} (hM : Met l y (Cond.code y bytes maxL ret :: wAll) rm (va_Pc As (hPre D G b0 f)) Qc rm.cells rm.slots (hA b0)) (hmk : mk y n) (w1 : (own, index, y, host) ∈ nest_m) (w2 : Cond.static y ∈ wAll) (w4 : Cond.code y bytes maxL ret ∈ wAll) (hR : rm.frames + 1 ≤ R.frames ∧ 8 + (maxL + 11) + rm.locals ≤ R.locals) (hn : As.length = n) (hrest : (rest.map fun v => v.category).sum ≤ 8) (hcs : cells + rm.cells ≤ R.cells ∧ slots + rm.slots ≤ R.slots) {st0 : List Value} (hst : st0 = As.reverse ++ rest) (hdg : decode cc pc = .ok (.invokestatic index, 3)) :
    va_Run p l e R s m args below meth c H locs cells slots rm.cells rm.slots (F0 m pc ls st0) rest (Qc As.toArray) (hA b0) := by
  have hts := C.2.2.2.2.1
  exact va_runSN (Ts := wAll) (own := own) (host := host) (bytes := bytes) (maxL := maxL) (ret := ret) ⟨C.1, C.2.1, C.2.2.1, C.2.2.2.1, hts⟩ hM ⟨va_cnB n hts (wAll_in w4) rfl rfl rfl (C.2.2.2.2.2.1.2.2.1 _ w1) (hts _ hmk.2) hmk.1 hR, hts _ w2, trivial⟩ ⟨hPre_blind _, hPre_of C h _⟩ rfl hn hl.1 hst (lv_room (m := m) (pc := pc) (ls := ls) (rest := st0) hrest) hdg hcs
theorem r_I (C : hC p s m args meth c cc nL own D G b0) (h : hw D b0 s.heap f H locs) {lv0 : List (Nat × Value)} (hl : lv_has ls nL lv0) {y : MethodName} {bytes : ByteArray} {maxL n : Nat} {rm : Room} {index : Nat} {As : List Value} {Qc : Array Value → State → Outcome → State → Prop} (hM : Met l y (Cond.code y bytes maxL none :: wAll) rm (va_Pc (.ref a :: As) (hPre D G b0 f)) Qc rm.cells rm.slots (hA b0)) (hmk : mk y n) (hy1 : y.name = "<init>") (w1 : Cond.methodLink own index y ∈ wAll) (w2 : Cond.instanceMethod y ∈ wAll) (w4 : Cond.code y bytes maxL none ∈ wAll) (hR : rm.frames + 1 ≤ R.frames ∧ 8 + (maxL + 11) + rm.locals ≤ R.locals) (hn : As.length = n) (hrest : (rest.map fun v => v.category).sum ≤ 8) (hcs : cells + rm.cells ≤ R.cells ∧ slots + rm.slots ≤ R.slots) {st0 : List Value} (hst : st0 = As.reverse ++ .ref a :: rest) (hdg : decode cc pc = .ok (.invokespecial index, 3)) :
    va_Run p l e R s m args below meth c H locs cells slots rm.cells rm.slots (F0 m pc ls st0) rest (Qc (Value.ref a :: As).toArray) (hA b0) := by
  have hts := C.2.2.2.2.1
  exact va_runI (Ts := wAll) (own := own) (bytes := bytes) (maxL := maxL) ⟨C.1, C.2.1, C.2.2.1, C.2.2.2.1, hts⟩ hM ⟨callB_of n hts (wAll_in w4) rfl rfl rfl (hts _ hmk.2) (hts _ w1) hmk.1 hR, hy1, hts _ w2⟩ ⟨hPre_blind _, hPre_of C h _⟩ rfl hn hl.1 hst (lv_room (m := m) (pc := pc) (ls := ls) (rest := st0) hrest) hdg hcs
theorem r_IN (C : hC p s m args meth c cc nL own D G b0) (h : hw D b0 s.heap f H locs) {lv0 : List (Nat × Value)} (hl : lv_has ls nL lv0) {y : MethodName} {bytes : ByteArray} {maxL n : Nat} {rm : Room} {index : Nat} {host : String} {As : List Value} {Qc : Array Value → State → Outcome → State → Prop} (hM : Met l y (Cond.code y bytes maxL none :: wAll) rm (va_Pc (.ref a :: As) (hPre D G b0 f)) Qc rm.cells rm.slots (hA b0)) (hmk : mk y n) (hy1 : y.name = "<init>") (w1 : (own, index, y, host) ∈ nest_m) (w2 : Cond.instanceMethod y ∈ wAll) (w4 : Cond.code y bytes maxL none ∈ wAll) (hR : rm.frames + 1 ≤ R.frames ∧ 8 + (maxL + 11) + rm.locals ≤ R.locals) (hn : As.length = n) (hrest : (rest.map fun v => v.category).sum ≤ 8) (hcs : cells + rm.cells ≤ R.cells ∧ slots + rm.slots ≤ R.slots) {st0 : List Value} (hst : st0 = As.reverse ++ .ref a :: rest) (hdg : decode cc pc = .ok (.invokespecial index, 3)) :
    va_Run p l e R s m args below meth c H locs cells slots rm.cells rm.slots (F0 m pc ls st0) rest (Qc (Value.ref a :: As).toArray) (hA b0) := by
  have hts := C.2.2.2.2.1
  exact va_runIN (Ts := wAll) (own := own) (host := host) (bytes := bytes) (maxL := maxL) ⟨C.1, C.2.1, C.2.2.1, C.2.2.2.1, hts⟩ hM ⟨va_cnB n hts (wAll_in w4) rfl rfl rfl (C.2.2.2.2.2.1.2.2.1 _ w1) (hts _ hmk.2) hmk.1 hR, hy1, hts _ w2⟩ ⟨hPre_blind _, hPre_of C h _⟩ rfl hn hl.1 hst (lv_room (m := m) (pc := pc) (ls := ls) (rest := st0) hrest) hdg hcs
theorem k_i {st0 : List Value} {mc ms : Nat} {aa : Array Value} {post : Int32 → hM → Prop} (hr : va_Run p l e R s m args below meth c H locs cells slots mc ms (F0 m pc ls st0) rest (va_Qi post (hPost D b0) (hA b0) aa) (hA b0)) (h : hw D b0 H0 f H locs) (kk : ∀ (r : Int32) (f1 : hM) (H1 : Heap) (locs1 : List Loc), post r f1 → hw D b0 H0 f1 H1 locs1 → W p l e R s m args below meth c H1 locs1 (cells + mc) (slots + ms) Q (F0 m (pc + 3) ls (.int r :: rest))) : W p l e R s m args below meth c H locs cells slots Q (F0 m pc ls st0) :=
  va_calli hr h.2.2.1 (fun q _ h => h) (fun q h => h) (fun r u t H1 locs1 ht hvm hp hB hz1 hk1 hS => kk r u H1 locs1 hp ⟨by rw [← ht]; exact hB.1, hB.2, hS, h.2.2.2⟩)
theorem k_l {st0 : List Value} {mc ms : Nat} {aa : Array Value} {post : Int64 → hM → Prop} (hr : va_Run p l e R s m args below meth c H locs cells slots mc ms (F0 m pc ls st0) rest (va_Ql post (hPost D b0) (hA b0) aa) (hA b0)) (h : hw D b0 H0 f H locs) (kk : ∀ (r : Int64) (f1 : hM) (H1 : Heap) (locs1 : List Loc), post r f1 → hw D b0 H0 f1 H1 locs1 → W p l e R s m args below meth c H1 locs1 (cells + mc) (slots + ms) Q (F0 m (pc + 3) ls (.long r :: rest))) : W p l e R s m args below meth c H locs cells slots Q (F0 m pc ls st0) :=
  va_calll hr h.2.2.1 (fun q _ h => h) (fun q h => h) (fun r u t H1 locs1 ht hvm hp hB hz1 hk1 hS => kk r u H1 locs1 hp ⟨by rw [← ht]; exact hB.1, hB.2, hS, h.2.2.2⟩)
theorem k_v {st0 : List Value} {mc ms : Nat} {aa : Array Value} {post : hM → Prop} (hr : va_Run p l e R s m args below meth c H locs cells slots mc ms (F0 m pc ls st0) rest (va_Qv post (hPost D b0) (hA b0) aa) (hA b0)) (h : hw D b0 H0 f H locs) (kk : ∀ (f1 : hM) (H1 : Heap) (locs1 : List Loc), post f1 → hw D b0 H0 f1 H1 locs1 → W p l e R s m args below meth c H1 locs1 (cells + mc) (slots + ms) Q (F0 m (pc + 3) ls rest)) : W p l e R s m args below meth c H locs cells slots Q (F0 m pc ls st0) :=
  va_callv hr h.2.2.1 (fun q _ h => h) (fun q h => h) (fun u t H1 locs1 ht hvm hp hB hz1 hk1 hS => kk u H1 locs1 hp ⟨by rw [← ht]; exact hB.1, hB.2, hS, h.2.2.2⟩)
theorem k_q {st0 : List Value} {mc ms : Nat} {aa : Array Value} {post : Option Nat → hM → Prop} (hr : va_Run p l e R s m args below meth c H locs cells slots mc ms (F0 m pc ls st0) rest (va_Qq post (hPost D b0) (hA b0) aa) (hA b0)) (h : hw D b0 H0 f H locs) (kk : ∀ (r : Option Nat) (f1 : hM) (H1 : Heap) (locs1 : List Loc), post r f1 → hw D b0 H0 f1 H1 locs1 → W p l e R s m args below meth c H1 locs1 (cells + mc) (slots + ms) Q (F0 m (pc + 3) ls (va_rf r :: rest))) : W p l e R s m args below meth c H locs cells slots Q (F0 m pc ls st0) :=
  va_callq hr h.2.2.1 (fun q _ h => h) (fun q h => h) (fun r u t H1 locs1 ht hvm hp hB hz1 hk1 hS => kk r u H1 locs1 hp ⟨by rw [← ht]; exact hB.1, hB.2, hS, h.2.2.2⟩)
end HRows
