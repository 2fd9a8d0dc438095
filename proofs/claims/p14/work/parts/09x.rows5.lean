theorem div_lt {x y : Int32} {r d u : Int} (hx : 0 ≤ x.toInt) (hy : y.toInt = d + 1) (hd : 0 ≤ d) (hu : u = (r + 1) * (d + 1)) (hlt : x.toInt < u) : (x / y).toInt < r + 1 := by
  have e : (x / y).toInt = x.toInt.tdiv y.toInt := Int32.toInt_div_of_ne_right _ _ (fun e => by rw [e] at hy; have : (-1 : Int32).toInt = -1 := rfl; omega)
  rw [e, Int.tdiv_eq_ediv_of_nonneg hx, hy]
  exact Int.ediv_lt_of_lt_mul (by omega) (by rw [hu] at hlt; exact hlt)
section XRows
variable {p : Program} {l : Launch} {e : Env} {R : Room} {s : State} {m : MethodId} {args : Array Value} {below : List Frame} {meth : Method} {c : Code} {H : Heap} {locs : List Loc} {cells slots : Nat} {Q : State → Prop}
variable {cc : ByteArray} {nL pc : Nat} {ls : Array Slot} {rest : List Value} {D : va_G} {G : Nat → Nat} {b0 a : Nat} {f f0 : hM} {own : String} {H0 : Heap} {τ : Nat → Nat} {β : Int} {tg : Nat} {S : List Nat}
theorem i_mulpm (hexec : p.tables.exec = Jvm.exec) (hb : c.code = cc) {x y : Int32} {l1 h1 l2 h2 lo hi : Int} (hdg : decode cc pc = .ok (.imul, 1)) (ix : iv x l1 h1) (iy : iv y l2 h2) (q : hi ≤ 2147483647 ∧ 0 ≤ l1 ∧ 0 ≤ l2 ∧ lo = l1 * l2 ∧ hi = h1 * h2) (kk : ∀ z : Int32, z = x * y → z.toInt = x.toInt * y.toInt → iv z lo hi → W p l e R s m args below meth c H locs cells slots Q (F0 m (pc + 1) ls (.int z :: rest))) : W p l e R s m args below meth c H locs cells slots Q (F0 m pc ls (.int y :: .int x :: rest)) := by
  obtain ⟨q1, q2, q3, rfl, rfl⟩ := q
  have hz := iv_mulp ix iy ⟨q2, q3, q1⟩
  have e2 : x.toInt * y.toInt ≤ h1 * h2 := Int.mul_le_mul ix.2 iy.2 (by omega) (by omega)
  have e3 : 0 ≤ x.toInt * y.toInt := Int.mul_nonneg (by omega) (by omega)
  exact lv_imul hexec hb hdg (kk _ rfl (by rw [Int32.toInt_mul, iv_bm (by omega) (by omega)]) hz)
end XRows
