theorem dk_u1l {L : List UInt8} {p : Nat} {b : UInt8} (h : L[p]? = some b) : (Jvm.ClassFile.Reader.u1 : Jvm.ClassFile.Reader Jvm.ClassFile.DecodeError Nat) ⟨⟨L⟩⟩ p = .ok (b.toNat, p + 1) := by
  obtain ⟨hl, hv⟩ := List.getElem?_eq_some_iff.mp h
  have hs : p < (ByteArray.mk (Array.mk L)).size := hl
  show (dite (p < (ByteArray.mk (Array.mk L)).size) (fun h => ((do set (p + 1); pure ((ByteArray.mk (Array.mk L))[p]'h).toNat) : Jvm.ClassFile.Reader Jvm.ClassFile.DecodeError Nat)) (fun _ => throw (Jvm.ClassFile.HasTruncated.truncated p))) ⟨⟨L⟩⟩ p = _
  rw [dif_pos hs]
  show (Except.ok (((ByteArray.mk (Array.mk L))[p]'hs).toNat, p + 1) : Except Jvm.ClassFile.DecodeError (Nat × Nat)) = _
  rw [show ((ByteArray.mk (Array.mk L))[p]'hs) = b from hv]
theorem dk_u1 {X : ByteArray} {p : Nat} {b : UInt8} (h : X.data.toList[p]? = some b) : (Jvm.ClassFile.Reader.u1 : Jvm.ClassFile.Reader Jvm.ClassFile.DecodeError Nat) X p = .ok (b.toNat, p + 1) := by
  obtain ⟨⟨L⟩⟩ := X
  exact dk_u1l h
theorem dk_u2 {X : ByteArray} {p : Nat} {a b : UInt8} (h : X.data.toList[p]? = some a) (h2 : X.data.toList[p + 1]? = some b) : (Jvm.ClassFile.Reader.u2 : Jvm.ClassFile.Reader Jvm.ClassFile.DecodeError Nat) X p = .ok (a.toNat * 256 + b.toNat, p + 2) := by
  show Except.bind ((Jvm.ClassFile.Reader.u1 : Jvm.ClassFile.Reader Jvm.ClassFile.DecodeError Nat) X p) (fun x => Except.bind ((Jvm.ClassFile.Reader.u1 : Jvm.ClassFile.Reader Jvm.ClassFile.DecodeError Nat) X x.2) (fun y => .ok (x.1 * 256 + y.1, y.2))) = _
  rw [dk_u1 h]
  show Except.bind ((Jvm.ClassFile.Reader.u1 : Jvm.ClassFile.Reader Jvm.ClassFile.DecodeError Nat) X (p + 1)) _ = _
  rw [dk_u1 h2]
  rfl
theorem dk_gen {X : ByteArray} {p q n : Nat} {b : UInt8} {i : Jvm.ClassFile.Instr} (h : X.data.toList[p]? = some b) (K : Nat → Jvm.ClassFile.Decoder Jvm.ClassFile.Instr) (hK : Jvm.ClassFile.Decoder.instr p = Jvm.ClassFile.Reader.u1 >>= K) {o : Nat} (ho : b.toNat = o) (hr : K o X (p + 1) = .ok (i, q)) (hq : q - p = n) : decode X p = .ok (i, n) := by
  show Except.bind (Jvm.ClassFile.Decoder.instr p X p) (fun x => .ok (x.1, x.2 - p)) = _
  rw [hK]
  show Except.bind (Except.bind ((Jvm.ClassFile.Reader.u1 : Jvm.ClassFile.Reader Jvm.ClassFile.DecodeError Nat) X p) (fun x => K x.1 X x.2)) (fun x => .ok (x.1, x.2 - p)) = _
  rw [dk_u1 h]
  show Except.bind (K b.toNat X (p + 1)) (fun x => .ok (x.1, x.2 - p)) = _
  rw [ho, hr, ← hq]
  rfl
theorem dk_at {L : List UInt8} {off n : Nat} {l : List UInt8} (h : (L.drop off).take n = l) {i : Nat} {b : UInt8} (hb : l[i]? = some b) : L[off + i]? = some b := by
  subst h
  rw [List.getElem?_take] at hb
  split at hb
  · rw [List.getElem?_drop] at hb; exact hb
  · cases hb
set_option maxRecDepth 100000 in
theorem dk_o43 {X : ByteArray} {p : Nat} (h : X.data.toList[p]? = some 43) : decode X p = .ok (.aload_n (1), 1) :=
  dk_gen h _ rfl (q := p + 1) (o := 43) (by decide) rfl (by omega)
set_option maxRecDepth 100000 in
theorem dk_o42 {X : ByteArray} {p : Nat} (h : X.data.toList[p]? = some 42) : decode X p = .ok (.aload_n (0), 1) :=
  dk_gen h _ rfl (q := p + 1) (o := 42) (by decide) rfl (by omega)
set_option maxRecDepth 100000 in
theorem dk_o21 {X : ByteArray} {p : Nat} (h : X.data.toList[p]? = some 21) {a : UInt8} (h1 : X.data.toList[p + 1]? = some a) : decode X p = .ok (.iload a.toNat, 2) := by
  refine dk_gen h _ rfl (q := p + 2) (o := 21) (by decide) ?_ (by omega)
  show Except.bind ((Jvm.ClassFile.Reader.u1 : Jvm.ClassFile.Reader Jvm.ClassFile.DecodeError Nat) X (p + 1)) (fun x => (Except.ok (Jvm.ClassFile.Instr.iload x.1, x.2) : Except Jvm.ClassFile.DecodeError (Jvm.ClassFile.Instr × Nat))) = _
  rw [dk_u1 h1]
  rfl
set_option maxRecDepth 100000 in
theorem dk_o4 {X : ByteArray} {p : Nat} (h : X.data.toList[p]? = some 4) : decode X p = .ok (.iconst (1), 1) :=
  dk_gen h _ rfl (q := p + 1) (o := 4) (by decide) rfl (by omega)
set_option maxRecDepth 100000 in
theorem dk_o96 {X : ByteArray} {p : Nat} (h : X.data.toList[p]? = some 96) : decode X p = .ok (.iadd, 1) :=
  dk_gen h _ rfl (q := p + 1) (o := 96) (by decide) rfl (by omega)
set_option maxRecDepth 100000 in
theorem dk_o46 {X : ByteArray} {p : Nat} (h : X.data.toList[p]? = some 46) : decode X p = .ok (.iaload, 1) :=
  dk_gen h _ rfl (q := p + 1) (o := 46) (by decide) rfl (by omega)
set_option maxRecDepth 100000 in
theorem dk_o5 {X : ByteArray} {p : Nat} (h : X.data.toList[p]? = some 5) : decode X p = .ok (.iconst (2), 1) :=
  dk_gen h _ rfl (q := p + 1) (o := 5) (by decide) rfl (by omega)
set_option maxRecDepth 100000 in
theorem dk_o6 {X : ByteArray} {p : Nat} (h : X.data.toList[p]? = some 6) : decode X p = .ok (.iconst (3), 1) :=
  dk_gen h _ rfl (q := p + 1) (o := 6) (by decide) rfl (by omega)
set_option maxRecDepth 100000 in
theorem dk_o7 {X : ByteArray} {p : Nat} (h : X.data.toList[p]? = some 7) : decode X p = .ok (.iconst (4), 1) :=
  dk_gen h _ rfl (q := p + 1) (o := 7) (by decide) rfl (by omega)
set_option maxRecDepth 100000 in
theorem dk_o8 {X : ByteArray} {p : Nat} (h : X.data.toList[p]? = some 8) : decode X p = .ok (.iconst (5), 1) :=
  dk_gen h _ rfl (q := p + 1) (o := 8) (by decide) rfl (by omega)
set_option maxRecDepth 100000 in
theorem dk_o182 {X : ByteArray} {p : Nat} (h : X.data.toList[p]? = some 182) {a b : UInt8} (h1 : X.data.toList[p + 1]? = some a) (h2 : X.data.toList[p + 2]? = some b) : decode X p = .ok (.invokevirtual (a.toNat * 256 + b.toNat), 3) := by
  refine dk_gen h _ rfl (q := p + 3) (o := 182) (by decide) ?_ (by omega)
  show Except.bind ((Jvm.ClassFile.Reader.u2 : Jvm.ClassFile.Reader Jvm.ClassFile.DecodeError Nat) X (p + 1)) (fun x => (Except.ok (Jvm.ClassFile.Instr.invokevirtual x.1, x.2) : Except Jvm.ClassFile.DecodeError (Jvm.ClassFile.Instr × Nat))) = _
  rw [dk_u2 h1 h2]
  rfl
set_option maxRecDepth 100000 in
theorem dk_o87 {X : ByteArray} {p : Nat} (h : X.data.toList[p]? = some 87) : decode X p = .ok (.pop, 1) :=
  dk_gen h _ rfl (q := p + 1) (o := 87) (by decide) rfl (by omega)
set_option maxRecDepth 100000 in
theorem dk_o44 {X : ByteArray} {p : Nat} (h : X.data.toList[p]? = some 44) : decode X p = .ok (.aload_n (2), 1) :=
  dk_gen h _ rfl (q := p + 1) (o := 44) (by decide) rfl (by omega)
set_option maxRecDepth 100000 in
theorem dk_o167 {X : ByteArray} {p : Nat} (h : X.data.toList[p]? = some 167) {a b : UInt8} {v : Int} (h1 : X.data.toList[p + 1]? = some a) (h2 : X.data.toList[p + 2]? = some b) (hv : Jvm.ClassFile.Reader.signed 16 (a.toNat * 256 + b.toNat) = v) : decode X p = .ok (.goto v, 3) := by
  subst hv
  refine dk_gen h _ rfl (q := p + 3) (o := 167) (by decide) ?_ (by omega)
  show Except.bind (Except.bind ((Jvm.ClassFile.Reader.u2 : Jvm.ClassFile.Reader Jvm.ClassFile.DecodeError Nat) X (p + 1)) (fun x => (Except.ok (Jvm.ClassFile.Reader.signed 16 x.1, x.2) : Except Jvm.ClassFile.DecodeError (Int × Nat)))) (fun x => (Except.ok (Jvm.ClassFile.Instr.goto x.1, x.2) : Except Jvm.ClassFile.DecodeError (Jvm.ClassFile.Instr × Nat))) = _
  rw [dk_u2 h1 h2]
  rfl
set_option maxRecDepth 100000 in
theorem dk_o16 {X : ByteArray} {p : Nat} (h : X.data.toList[p]? = some 16) {a : UInt8} {v : Int} (h1 : X.data.toList[p + 1]? = some a) (hv : Jvm.ClassFile.Reader.signed 8 a.toNat = v) : decode X p = .ok (.bipush v, 2) := by
  subst hv
  refine dk_gen h _ rfl (q := p + 2) (o := 16) (by decide) ?_ (by omega)
  show Except.bind (Except.bind ((Jvm.ClassFile.Reader.u1 : Jvm.ClassFile.Reader Jvm.ClassFile.DecodeError Nat) X (p + 1)) (fun x => (Except.ok (Jvm.ClassFile.Reader.signed 8 x.1, x.2) : Except Jvm.ClassFile.DecodeError (Int × Nat)))) (fun x => (Except.ok (Jvm.ClassFile.Instr.bipush x.1, x.2) : Except Jvm.ClassFile.DecodeError (Jvm.ClassFile.Instr × Nat))) = _
  rw [dk_u1 h1]
  rfl
set_option maxRecDepth 100000 in
theorem dk_o45 {X : ByteArray} {p : Nat} (h : X.data.toList[p]? = some 45) : decode X p = .ok (.aload_n (3), 1) :=
  dk_gen h _ rfl (q := p + 1) (o := 45) (by decide) rfl (by omega)
set_option maxRecDepth 100000 in
theorem dk_o3 {X : ByteArray} {p : Nat} (h : X.data.toList[p]? = some 3) : decode X p = .ok (.iconst (0), 1) :=
  dk_gen h _ rfl (q := p + 1) (o := 3) (by decide) rfl (by omega)
