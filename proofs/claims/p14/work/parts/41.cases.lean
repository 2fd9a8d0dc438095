-- ===== end of PART A; then your names; then what follows =====
/-! THE CLAIM OUT OF ONE WALK OF THE LAW'S BODY. Your part is whole_start (and what it stands on); all else here is the same for every law, but numbers. -/
def R_law : String := "QuarterWalksLaw"
def lw_P (b : Addr) (xs : List Int32) (args : Array Value) (s : State) : Prop := args = #[.ref b] ∧ s.IntsAt b xs ∧ xs.length ≤ 4096 ∧ (Jvm.Cond.and given_1 narrow_1).before args s = true
def lw_Q (_ : Array Value) (s : State) (o : Outcome) (t : State) : Prop := o = .returned (some (.int 1)) ∧ Framed s o t [] 601024 7293034
def lw_Z (below : List Frame) (a : Array Value) (s : State) : State → Prop := fun t => ∃ o, t.status = .running ∧ Ended t below o ∧ lw_Q a s o t
/-- the law's own end, with 1 on the stack, nothing written that was there before, its room as the claim has it -/
theorem lw_ret {p : Program} {l : Launch} {e : Env} {s : State} {m : MethodId} {below : List Frame} {meth : Method} {c : Code} {b : Nat} (hx : p.tables.exec = Jvm.exec) (hb : c.code = code) (hr : meth.sig.returnType = ret) (hlocks : meth.locks = false) {pc : Nat} {H : Heap} {ls : Array Slot} (hdg : decode code pc = .ok (.ireturn, 1)) : W p l e room_1 s m #[Value.ref b] below meth c H [] 601024 7293034 (lw_Z below #[Value.ref b] s) (F0 m pc ls [.int 1]) := by
  intro T hT X
  obtain ⟨fs, hret, hrun, hended, hW, hframe⟩ := X.leave (v := some (.int 1)) (hlocks := hlocks) (fun h => by rw [hr] at h; cases h)
  have hmeth' : T.vm.method? m = some meth := X.method'
  refine ⟨T.setFrames fs, ?_, .returned (some (.int 1)), hrun, hended, rfl, ⟨_, rfl⟩, hW, hframe⟩
  jvm_step X.here [X.here.top, hx, hb, hdg, hmeth', hr, ret, narrow_b1]
  (try refine ⟨rfl, ?_⟩); (try refine ⟨rfl, ?_⟩)
  first | (intro acts; rw [hret _ acts rfl rfl rfl]) | rw [hret _ _ rfl rfl rfl]
  exact Steps.refl _
/-- what holds at the law's entry: the machine, the code, the tables' words (any of lw_tbl by 'hts w (by decide +kernel)'), the script of L ints xs at the cell b, what the Statement gives of the start (any of its parts by flat_of_before) -/
def lw_At (p : Program) (s : State) (m : MethodId) (meth : Method) (c : Code) (b L : Nat) (xs : Nat → Int32) : Prop :=
  p.tables.exec = Jvm.exec ∧ c.code = code ∧ meth.sig.returnType = ret ∧ c.maxLocals = 7 ∧ s.vm.findClass R_law = some m.cls ∧ (∀ w ∈ lw_tbl, w.before #[Value.ref b] s = true) ∧ va_X b L xs s s.heap ∧ b < s.heap.size ∧ meth.locks = false ∧ (Jvm.Cond.and given_1 narrow_1).before #[Value.ref b] s = true

theorem law_arg {p : Program} {l : Launch} {e : Env} {R : Room} {s : State} {m : MethodId} {args : Array Value} {below : List Frame} {meth : Method} {c : Code} {b L : Nat} {xs : Nat → Int32} {b0 : Nat} {H : Heap} {locs : List Loc} {ls : Array Slot} {cells slots : Nat} {Q : State → Prop} {pc : Nat} {rest : List Value} {i : Int32} {n : Int} {v : Int32} (hx : p.tables.exec = Jvm.exec) (hb : c.code = cL_law) (hXs : va_X b L xs s s.heap) (hbl : b < s.heap.size) (hbA : ¬ hA b0 b) (hS : va_S (hA b0) s.heap H locs) (hin : vp_in (i + v) L) (h4 : ls[4]? = some (.val (.int i))) (h0 : ls[0]? = some (.val (.ref b))) (hv : Int32.ofInt n = v) (d0 : decode cL_law pc = .ok (.aload_n 0, 1)) (d1 : decode cL_law (pc + 1) = .ok (.iload 4, 2)) (d2 : decode cL_law (pc + 3) = .ok (.iconst n, 1)) (d3 : decode cL_law (pc + 4) = .ok (.iadd, 1)) (d4 : decode cL_law (pc + 5) = .ok (.iaload, 1)) (kk : W p l e R s m args below meth c H locs cells slots Q (F0 m (pc + 6) ls (.int (xs (Int32.toNatClampNeg (i + v))) :: rest))) : W p l e R s m args below meth c H locs cells slots Q (F0 m pc ls rest) :=
  lv_aload_n hx hb d0 rfl h0 (lv_iload hx hb d1 h4 (lv_iconst hx hb d2 hv (lv_iadd hx hb d3 (va_sld hx hb hXs hbl hbA hS hin d4 kk))))
theorem mk_X10_feed : mk yX10_feed 5 := ⟨by decide +kernel, w_96⟩
theorem w_410 : Cond.methodLink "QuarterWalksLaw" 19 yX10_feed ∈ wAll := wI2 75 (by decide +kernel) (by decide +kernel)
theorem w_411 : Cond.instanceMethod yX10_feed ∈ wAll := wI2 76 (by decide +kernel) (by decide +kernel)
theorem w_412 : Cond.selects yX10_feed.cls yX10_feed yX10_feed ∈ wAll := wI2 77 (by decide +kernel) (by decide +kernel)
theorem w_413 : Cond.code yX10_feed cX10_feed 7 (some .int) ∈ wAll := wI2 78 (by decide +kernel) (by decide +kernel)
theorem mk_X11_feed : mk yX11_feed 5 := ⟨by decide +kernel, w_110⟩
theorem w_1530 : Cond.methodLink "QuarterWalksLaw" 23 yX11_feed ∈ wAll := wI6 235 (by decide +kernel) (by decide +kernel)
theorem w_1531 : Cond.instanceMethod yX11_feed ∈ wAll := wI6 236 (by decide +kernel) (by decide +kernel)
theorem w_1532 : Cond.selects yX11_feed.cls yX11_feed yX11_feed ∈ wAll := wI6 237 (by decide +kernel) (by decide +kernel)
theorem w_1533 : Cond.code yX11_feed cX11_feed 6 (some .int) ∈ wAll := wI6 238 (by decide +kernel) (by decide +kernel)
theorem mk_X10_end : mk yX10_end 1 := ⟨by decide +kernel, w_96⟩
theorem w_421 : Cond.methodLink "QuarterWalksLaw" 24 yX10_end ∈ wAll := wI2 86 (by decide +kernel) (by decide +kernel)
theorem w_422 : Cond.instanceMethod yX10_end ∈ wAll := wI2 87 (by decide +kernel) (by decide +kernel)
theorem w_423 : Cond.selects yX10_end.cls yX10_end yX10_end ∈ wAll := wI2 88 (by decide +kernel) (by decide +kernel)
theorem w_424 : Cond.code yX10_end cX10_end 2 (some .boolean) ∈ wAll := wI2 89 (by decide +kernel) (by decide +kernel)
theorem mk_X11_end : mk yX11_end 1 := ⟨by decide +kernel, w_110⟩
theorem w_1541 : Cond.methodLink "QuarterWalksLaw" 28 yX11_end ∈ wAll := wI7 6 (by decide +kernel) (by decide +kernel)
theorem w_1542 : Cond.instanceMethod yX11_end ∈ wAll := wI7 7 (by decide +kernel) (by decide +kernel)
theorem w_1543 : Cond.selects yX11_end.cls yX11_end yX11_end ∈ wAll := wI7 8 (by decide +kernel) (by decide +kernel)
theorem w_1544 : Cond.code yX11_end cX11_end 2 (some .boolean) ∈ wAll := wI7 9 (by decide +kernel) (by decide +kernel)
theorem mk_X10_fault : mk yX10_fault 0 := ⟨by decide +kernel, w_96⟩
theorem w_428 : Cond.methodLink "QuarterWalksLaw" 29 yX10_fault ∈ wAll := wI2 93 (by decide +kernel) (by decide +kernel)
theorem w_429 : Cond.instanceMethod yX10_fault ∈ wAll := wI2 94 (by decide +kernel) (by decide +kernel)
theorem w_430 : Cond.selects yX10_fault.cls yX10_fault yX10_fault ∈ wAll := wI2 95 (by decide +kernel) (by decide +kernel)
theorem w_431 : Cond.code yX10_fault cX10_fault 1 (some .int) ∈ wAll := wI2 96 (by decide +kernel) (by decide +kernel)
theorem mk_X11_fault : mk yX11_fault 0 := ⟨by decide +kernel, w_110⟩
theorem w_1545 : Cond.methodLink "QuarterWalksLaw" 33 yX11_fault ∈ wAll := wI7 10 (by decide +kernel) (by decide +kernel)
theorem w_1546 : Cond.instanceMethod yX11_fault ∈ wAll := wI7 11 (by decide +kernel) (by decide +kernel)
theorem w_1547 : Cond.selects yX11_fault.cls yX11_fault yX11_fault ∈ wAll := wI7 12 (by decide +kernel) (by decide +kernel)
theorem w_1548 : Cond.code yX11_fault cX11_fault 1 (some .int) ∈ wAll := wI7 13 (by decide +kernel) (by decide +kernel)
theorem mk_X10_tell : mk yX10_tell 0 := ⟨by decide +kernel, w_96⟩
theorem w_515 : Cond.methodLink "QuarterWalksLaw" 34 yX10_tell ∈ wAll := wI2 180 (by decide +kernel) (by decide +kernel)
theorem w_516 : Cond.instanceMethod yX10_tell ∈ wAll := wI2 181 (by decide +kernel) (by decide +kernel)
theorem w_517 : Cond.selects yX10_tell.cls yX10_tell yX10_tell ∈ wAll := wI2 182 (by decide +kernel) (by decide +kernel)
theorem w_518 : Cond.code yX10_tell cX10_tell 1 (some .int) ∈ wAll := wI2 183 (by decide +kernel) (by decide +kernel)
theorem mk_X11_tell : mk yX11_tell 0 := ⟨by decide +kernel, w_110⟩
theorem w_1600 : Cond.methodLink "QuarterWalksLaw" 37 yX11_tell ∈ wAll := wI7 65 (by decide +kernel) (by decide +kernel)
theorem w_1601 : Cond.instanceMethod yX11_tell ∈ wAll := wI7 66 (by decide +kernel) (by decide +kernel)
theorem w_1602 : Cond.selects yX11_tell.cls yX11_tell yX11_tell ∈ wAll := wI7 67 (by decide +kernel) (by decide +kernel)
theorem w_1603 : Cond.code yX11_tell cX11_tell 1 (some .int) ∈ wAll := wI7 68 (by decide +kernel) (by decide +kernel)
theorem mk_X10_drop : mk yX10_drop 1 := ⟨by decide +kernel, w_96⟩
theorem w_590 : Cond.methodLink "QuarterWalksLaw" 38 yX10_drop ∈ wAll := wI3 15 (by decide +kernel) (by decide +kernel)
theorem w_591 : Cond.instanceMethod yX10_drop ∈ wAll := wI3 16 (by decide +kernel) (by decide +kernel)
theorem w_592 : Cond.selects yX10_drop.cls yX10_drop yX10_drop ∈ wAll := wI3 17 (by decide +kernel) (by decide +kernel)
theorem w_593 : Cond.code yX10_drop cX10_drop 2 (some .int) ∈ wAll := wI3 18 (by decide +kernel) (by decide +kernel)
theorem mk_X11_drop : mk yX11_drop 1 := ⟨by decide +kernel, w_110⟩
theorem w_1616 : Cond.methodLink "QuarterWalksLaw" 42 yX11_drop ∈ wAll := wI7 81 (by decide +kernel) (by decide +kernel)
theorem w_1617 : Cond.instanceMethod yX11_drop ∈ wAll := wI7 82 (by decide +kernel) (by decide +kernel)
theorem w_1618 : Cond.selects yX11_drop.cls yX11_drop yX11_drop ∈ wAll := wI7 83 (by decide +kernel) (by decide +kernel)
theorem w_1619 : Cond.code yX11_drop cX11_drop 3 (some .int) ∈ wAll := wI7 84 (by decide +kernel) (by decide +kernel)
theorem mk_X10_mirror : mk yX10_mirror 1 := ⟨by decide +kernel, w_96⟩
theorem w_603 : Cond.methodLink "QuarterWalksLaw" 43 yX10_mirror ∈ wAll := wI3 28 (by decide +kernel) (by decide +kernel)
theorem w_604 : Cond.instanceMethod yX10_mirror ∈ wAll := wI3 29 (by decide +kernel) (by decide +kernel)
theorem w_605 : Cond.selects yX10_mirror.cls yX10_mirror yX10_mirror ∈ wAll := wI3 30 (by decide +kernel) (by decide +kernel)
theorem w_606 : Cond.code yX10_mirror cX10_mirror 3 (some .int) ∈ wAll := wI3 31 (by decide +kernel) (by decide +kernel)
theorem mk_X11_mirror : mk yX11_mirror 1 := ⟨by decide +kernel, w_110⟩
theorem w_1627 : Cond.methodLink "QuarterWalksLaw" 46 yX11_mirror ∈ wAll := wI7 92 (by decide +kernel) (by decide +kernel)
theorem w_1628 : Cond.instanceMethod yX11_mirror ∈ wAll := wI7 93 (by decide +kernel) (by decide +kernel)
theorem w_1629 : Cond.selects yX11_mirror.cls yX11_mirror yX11_mirror ∈ wAll := wI7 94 (by decide +kernel) (by decide +kernel)
theorem w_1630 : Cond.code yX11_mirror cX11_mirror 3 (some .int) ∈ wAll := wI7 95 (by decide +kernel) (by decide +kernel)
theorem mk_X10_turn : mk yX10_turn 1 := ⟨by decide +kernel, w_96⟩
theorem w_615 : Cond.methodLink "QuarterWalksLaw" 47 yX10_turn ∈ wAll := wI3 40 (by decide +kernel) (by decide +kernel)
theorem w_616 : Cond.instanceMethod yX10_turn ∈ wAll := wI3 41 (by decide +kernel) (by decide +kernel)
theorem w_617 : Cond.selects yX10_turn.cls yX10_turn yX10_turn ∈ wAll := wI3 42 (by decide +kernel) (by decide +kernel)
theorem w_618 : Cond.code yX10_turn cX10_turn 3 (some .int) ∈ wAll := wI3 43 (by decide +kernel) (by decide +kernel)
theorem mk_X11_turn : mk yX11_turn 1 := ⟨by decide +kernel, w_110⟩
theorem w_1635 : Cond.methodLink "QuarterWalksLaw" 50 yX11_turn ∈ wAll := wI7 100 (by decide +kernel) (by decide +kernel)
theorem w_1636 : Cond.instanceMethod yX11_turn ∈ wAll := wI7 101 (by decide +kernel) (by decide +kernel)
theorem w_1637 : Cond.selects yX11_turn.cls yX11_turn yX11_turn ∈ wAll := wI7 102 (by decide +kernel) (by decide +kernel)
theorem w_1638 : Cond.code yX11_turn cX11_turn 3 (some .int) ∈ wAll := wI7 103 (by decide +kernel) (by decide +kernel)
theorem mk_X10_join : mk yX10_join 2 := ⟨by decide +kernel, w_96⟩
theorem w_621 : Cond.methodLink "QuarterWalksLaw" 51 yX10_join ∈ wAll := wI3 46 (by decide +kernel) (by decide +kernel)
theorem w_622 : Cond.instanceMethod yX10_join ∈ wAll := wI3 47 (by decide +kernel) (by decide +kernel)
theorem w_623 : Cond.selects yX10_join.cls yX10_join yX10_join ∈ wAll := wI3 48 (by decide +kernel) (by decide +kernel)
theorem w_624 : Cond.code yX10_join cX10_join 7 (some .int) ∈ wAll := wI3 49 (by decide +kernel) (by decide +kernel)
theorem mk_X11_join : mk yX11_join 2 := ⟨by decide +kernel, w_110⟩
theorem w_1639 : Cond.methodLink "QuarterWalksLaw" 54 yX11_join ∈ wAll := wI7 104 (by decide +kernel) (by decide +kernel)
theorem w_1640 : Cond.instanceMethod yX11_join ∈ wAll := wI7 105 (by decide +kernel) (by decide +kernel)
theorem w_1641 : Cond.selects yX11_join.cls yX11_join yX11_join ∈ wAll := wI7 106 (by decide +kernel) (by decide +kernel)
theorem w_1642 : Cond.code yX11_join cX11_join 4 (some .int) ∈ wAll := wI7 107 (by decide +kernel) (by decide +kernel)
theorem mk_X10_scale : mk yX10_scale 2 := ⟨by decide +kernel, w_96⟩
theorem w_628 : Cond.methodLink "QuarterWalksLaw" 55 yX10_scale ∈ wAll := wI3 53 (by decide +kernel) (by decide +kernel)
theorem w_629 : Cond.instanceMethod yX10_scale ∈ wAll := wI3 54 (by decide +kernel) (by decide +kernel)
theorem w_630 : Cond.selects yX10_scale.cls yX10_scale yX10_scale ∈ wAll := wI3 55 (by decide +kernel) (by decide +kernel)
theorem w_631 : Cond.code yX10_scale cX10_scale 6 (some .int) ∈ wAll := wI3 56 (by decide +kernel) (by decide +kernel)
theorem mk_X11_scale : mk yX11_scale 2 := ⟨by decide +kernel, w_110⟩
theorem w_1643 : Cond.methodLink "QuarterWalksLaw" 58 yX11_scale ∈ wAll := wI7 108 (by decide +kernel) (by decide +kernel)
theorem w_1644 : Cond.instanceMethod yX11_scale ∈ wAll := wI7 109 (by decide +kernel) (by decide +kernel)
theorem w_1645 : Cond.selects yX11_scale.cls yX11_scale yX11_scale ∈ wAll := wI7 110 (by decide +kernel) (by decide +kernel)
theorem w_1646 : Cond.code yX11_scale cX11_scale 4 (some .int) ∈ wAll := wI7 111 (by decide +kernel) (by decide +kernel)
theorem mk_X10_weigh : mk yX10_weigh 3 := ⟨by decide +kernel, w_96⟩
theorem w_640 : Cond.methodLink "QuarterWalksLaw" 59 yX10_weigh ∈ wAll := wI3 65 (by decide +kernel) (by decide +kernel)
theorem w_641 : Cond.instanceMethod yX10_weigh ∈ wAll := wI3 66 (by decide +kernel) (by decide +kernel)
theorem w_642 : Cond.selects yX10_weigh.cls yX10_weigh yX10_weigh ∈ wAll := wI3 67 (by decide +kernel) (by decide +kernel)
theorem w_643 : Cond.code yX10_weigh cX10_weigh 7 (some .int) ∈ wAll := wI3 68 (by decide +kernel) (by decide +kernel)
theorem mk_X11_weigh : mk yX11_weigh 3 := ⟨by decide +kernel, w_110⟩
theorem w_1653 : Cond.methodLink "QuarterWalksLaw" 63 yX11_weigh ∈ wAll := wI7 118 (by decide +kernel) (by decide +kernel)
theorem w_1654 : Cond.instanceMethod yX11_weigh ∈ wAll := wI7 119 (by decide +kernel) (by decide +kernel)
theorem w_1655 : Cond.selects yX11_weigh.cls yX11_weigh yX11_weigh ∈ wAll := wI7 120 (by decide +kernel) (by decide +kernel)
theorem w_1656 : Cond.code yX11_weigh cX11_weigh 5 (some .int) ∈ wAll := wI7 121 (by decide +kernel) (by decide +kernel)
theorem mk_X10_start : mk yX10_start 3 := ⟨by decide +kernel, w_96⟩
theorem w_645 : Cond.methodLink "QuarterWalksLaw" 64 yX10_start ∈ wAll := wI3 70 (by decide +kernel) (by decide +kernel)
theorem w_646 : Cond.instanceMethod yX10_start ∈ wAll := wI3 71 (by decide +kernel) (by decide +kernel)
theorem w_647 : Cond.selects yX10_start.cls yX10_start yX10_start ∈ wAll := wI3 72 (by decide +kernel) (by decide +kernel)
theorem w_648 : Cond.code yX10_start cX10_start 5 (some .int) ∈ wAll := wI3 73 (by decide +kernel) (by decide +kernel)
theorem mk_X11_start : mk yX11_start 3 := ⟨by decide +kernel, w_110⟩
theorem w_1662 : Cond.methodLink "QuarterWalksLaw" 67 yX11_start ∈ wAll := wI7 127 (by decide +kernel) (by decide +kernel)
theorem w_1663 : Cond.instanceMethod yX11_start ∈ wAll := wI7 128 (by decide +kernel) (by decide +kernel)
theorem w_1664 : Cond.selects yX11_start.cls yX11_start yX11_start ∈ wAll := wI7 129 (by decide +kernel) (by decide +kernel)
theorem w_1665 : Cond.code yX11_start cX11_start 5 (some .int) ∈ wAll := wI7 130 (by decide +kernel) (by decide +kernel)
theorem mk_X10_at : mk yX10_at 5 := ⟨by decide +kernel, w_96⟩
theorem w_649 : Cond.methodLink "QuarterWalksLaw" 74 yX10_at ∈ wAll := wI3 74 (by decide +kernel) (by decide +kernel)
theorem w_650 : Cond.instanceMethod yX10_at ∈ wAll := wI3 75 (by decide +kernel) (by decide +kernel)
theorem w_651 : Cond.selects yX10_at.cls yX10_at yX10_at ∈ wAll := wI3 76 (by decide +kernel) (by decide +kernel)
theorem w_652 : Cond.code yX10_at cX10_at 7 (some .int) ∈ wAll := wI3 77 (by decide +kernel) (by decide +kernel)
theorem mk_X11_at : mk yX11_at 5 := ⟨by decide +kernel, w_110⟩
theorem w_1685 : Cond.methodLink "QuarterWalksLaw" 77 yX11_at ∈ wAll := wI7 150 (by decide +kernel) (by decide +kernel)
theorem w_1686 : Cond.instanceMethod yX11_at ∈ wAll := wI7 151 (by decide +kernel) (by decide +kernel)
theorem w_1687 : Cond.selects yX11_at.cls yX11_at yX11_at ∈ wAll := wI7 152 (by decide +kernel) (by decide +kernel)
theorem w_1688 : Cond.code yX11_at cX11_at 6 (some .int) ∈ wAll := wI7 153 (by decide +kernel) (by decide +kernel)
theorem mk_X10_series : mk yX10_series 3 := ⟨by decide +kernel, w_96⟩
theorem w_717 : Cond.methodLink "QuarterWalksLaw" 78 yX10_series ∈ wAll := wI3 142 (by decide +kernel) (by decide +kernel)
theorem w_718 : Cond.instanceMethod yX10_series ∈ wAll := wI3 143 (by decide +kernel) (by decide +kernel)
theorem w_719 : Cond.selects yX10_series.cls yX10_series yX10_series ∈ wAll := wI3 144 (by decide +kernel) (by decide +kernel)
theorem w_720 : Cond.code yX10_series cX10_series 5 (some .int) ∈ wAll := wI3 145 (by decide +kernel) (by decide +kernel)
theorem mk_X11_series : mk yX11_series 3 := ⟨by decide +kernel, w_110⟩
theorem w_1726 : Cond.methodLink "QuarterWalksLaw" 81 yX11_series ∈ wAll := wI7 191 (by decide +kernel) (by decide +kernel)
theorem w_1727 : Cond.instanceMethod yX11_series ∈ wAll := wI7 192 (by decide +kernel) (by decide +kernel)
theorem w_1728 : Cond.selects yX11_series.cls yX11_series yX11_series ∈ wAll := wI7 193 (by decide +kernel) (by decide +kernel)
theorem w_1729 : Cond.code yX11_series cX11_series 4 (some .int) ∈ wAll := wI7 194 (by decide +kernel) (by decide +kernel)
theorem mk_X10_exact : mk yX10_exact 4 := ⟨by decide +kernel, w_96⟩
theorem w_749 : Cond.methodLink "QuarterWalksLaw" 82 yX10_exact ∈ wAll := wI3 174 (by decide +kernel) (by decide +kernel)
theorem w_750 : Cond.instanceMethod yX10_exact ∈ wAll := wI3 175 (by decide +kernel) (by decide +kernel)
theorem w_751 : Cond.selects yX10_exact.cls yX10_exact yX10_exact ∈ wAll := wI3 176 (by decide +kernel) (by decide +kernel)
theorem w_752 : Cond.code yX10_exact cX10_exact 6 (some .long) ∈ wAll := wI3 177 (by decide +kernel) (by decide +kernel)
theorem mk_X11_exact : mk yX11_exact 4 := ⟨by decide +kernel, w_110⟩
theorem w_1739 : Cond.methodLink "QuarterWalksLaw" 86 yX11_exact ∈ wAll := wI7 204 (by decide +kernel) (by decide +kernel)
theorem w_1740 : Cond.instanceMethod yX11_exact ∈ wAll := wI7 205 (by decide +kernel) (by decide +kernel)
theorem w_1741 : Cond.selects yX11_exact.cls yX11_exact yX11_exact ∈ wAll := wI7 206 (by decide +kernel) (by decide +kernel)
theorem w_1742 : Cond.code yX11_exact cX11_exact 5 (some .long) ∈ wAll := wI7 207 (by decide +kernel) (by decide +kernel)
theorem mk_X10_bridge : mk yX10_bridge 4 := ⟨by decide +kernel, w_96⟩
theorem w_758 : Cond.methodLink "QuarterWalksLaw" 87 yX10_bridge ∈ wAll := wI3 183 (by decide +kernel) (by decide +kernel)
theorem w_759 : Cond.instanceMethod yX10_bridge ∈ wAll := wI3 184 (by decide +kernel) (by decide +kernel)
theorem w_760 : Cond.selects yX10_bridge.cls yX10_bridge yX10_bridge ∈ wAll := wI3 185 (by decide +kernel) (by decide +kernel)
theorem w_761 : Cond.code yX10_bridge cX10_bridge 6 (some .int) ∈ wAll := wI3 186 (by decide +kernel) (by decide +kernel)
theorem mk_X11_bridge : mk yX11_bridge 4 := ⟨by decide +kernel, w_110⟩
theorem w_1771 : Cond.methodLink "QuarterWalksLaw" 91 yX11_bridge ∈ wAll := wI7 236 (by decide +kernel) (by decide +kernel)
theorem w_1772 : Cond.instanceMethod yX11_bridge ∈ wAll := wI7 237 (by decide +kernel) (by decide +kernel)
theorem w_1773 : Cond.selects yX11_bridge.cls yX11_bridge yX11_bridge ∈ wAll := wI7 238 (by decide +kernel) (by decide +kernel)
theorem w_1774 : Cond.code yX11_bridge cX11_bridge 6 (some .int) ∈ wAll := wI7 239 (by decide +kernel) (by decide +kernel)
theorem mk_X10_reflected : mk yX10_reflected 4 := ⟨by decide +kernel, w_96⟩
theorem w_768 : Cond.methodLink "QuarterWalksLaw" 92 yX10_reflected ∈ wAll := wI3 193 (by decide +kernel) (by decide +kernel)
theorem w_769 : Cond.instanceMethod yX10_reflected ∈ wAll := wI3 194 (by decide +kernel) (by decide +kernel)
theorem w_770 : Cond.selects yX10_reflected.cls yX10_reflected yX10_reflected ∈ wAll := wI3 195 (by decide +kernel) (by decide +kernel)
theorem w_771 : Cond.code yX10_reflected cX10_reflected 10 (some .int) ∈ wAll := wI3 196 (by decide +kernel) (by decide +kernel)
theorem mk_X11_reflected : mk yX11_reflected 4 := ⟨by decide +kernel, w_110⟩
theorem w_1779 : Cond.methodLink "QuarterWalksLaw" 95 yX11_reflected ∈ wAll := wI8 4 (by decide +kernel) (by decide +kernel)
theorem w_1780 : Cond.instanceMethod yX11_reflected ∈ wAll := wI8 5 (by decide +kernel) (by decide +kernel)
theorem w_1781 : Cond.selects yX11_reflected.cls yX11_reflected yX11_reflected ∈ wAll := wI8 6 (by decide +kernel) (by decide +kernel)
theorem w_1782 : Cond.code yX11_reflected cX11_reflected 7 (some .int) ∈ wAll := wI8 7 (by decide +kernel) (by decide +kernel)
theorem mk_X10_rank : mk yX10_rank 2 := ⟨by decide +kernel, w_96⟩
theorem w_782 : Cond.methodLink "QuarterWalksLaw" 96 yX10_rank ∈ wAll := wI3 207 (by decide +kernel) (by decide +kernel)
theorem w_783 : Cond.instanceMethod yX10_rank ∈ wAll := wI3 208 (by decide +kernel) (by decide +kernel)
theorem w_784 : Cond.selects yX10_rank.cls yX10_rank yX10_rank ∈ wAll := wI3 209 (by decide +kernel) (by decide +kernel)
theorem w_785 : Cond.code yX10_rank cX10_rank 6 (some .int) ∈ wAll := wI3 210 (by decide +kernel) (by decide +kernel)
theorem mk_X11_rank : mk yX11_rank 2 := ⟨by decide +kernel, w_110⟩
theorem w_1807 : Cond.methodLink "QuarterWalksLaw" 99 yX11_rank ∈ wAll := wI8 32 (by decide +kernel) (by decide +kernel)
theorem w_1808 : Cond.instanceMethod yX11_rank ∈ wAll := wI8 33 (by decide +kernel) (by decide +kernel)
theorem w_1809 : Cond.selects yX11_rank.cls yX11_rank yX11_rank ∈ wAll := wI8 34 (by decide +kernel) (by decide +kernel)
theorem w_1810 : Cond.code yX11_rank cX11_rank 5 (some .int) ∈ wAll := wI8 35 (by decide +kernel) (by decide +kernel)
theorem mk_X10_ratio : mk yX10_ratio 3 := ⟨by decide +kernel, w_96⟩
theorem w_817 : Cond.methodLink "QuarterWalksLaw" 100 yX10_ratio ∈ wAll := wI4 2 (by decide +kernel) (by decide +kernel)
theorem w_818 : Cond.instanceMethod yX10_ratio ∈ wAll := wI4 3 (by decide +kernel) (by decide +kernel)
theorem w_819 : Cond.selects yX10_ratio.cls yX10_ratio yX10_ratio ∈ wAll := wI4 4 (by decide +kernel) (by decide +kernel)
theorem w_820 : Cond.code yX10_ratio cX10_ratio 6 (some .int) ∈ wAll := wI4 5 (by decide +kernel) (by decide +kernel)
theorem mk_X11_ratio : mk yX11_ratio 3 := ⟨by decide +kernel, w_110⟩
theorem w_1812 : Cond.methodLink "QuarterWalksLaw" 103 yX11_ratio ∈ wAll := wI8 37 (by decide +kernel) (by decide +kernel)
theorem w_1813 : Cond.instanceMethod yX11_ratio ∈ wAll := wI8 38 (by decide +kernel) (by decide +kernel)
theorem w_1814 : Cond.selects yX11_ratio.cls yX11_ratio yX11_ratio ∈ wAll := wI8 39 (by decide +kernel) (by decide +kernel)
theorem w_1815 : Cond.code yX11_ratio cX11_ratio 4 (some .int) ∈ wAll := wI8 40 (by decide +kernel) (by decide +kernel)
theorem mk_X10_hankel : mk yX10_hankel 3 := ⟨by decide +kernel, w_96⟩
theorem w_823 : Cond.methodLink "QuarterWalksLaw" 104 yX10_hankel ∈ wAll := wI4 8 (by decide +kernel) (by decide +kernel)
theorem w_824 : Cond.instanceMethod yX10_hankel ∈ wAll := wI4 9 (by decide +kernel) (by decide +kernel)
theorem w_825 : Cond.selects yX10_hankel.cls yX10_hankel yX10_hankel ∈ wAll := wI4 10 (by decide +kernel) (by decide +kernel)
theorem w_826 : Cond.code yX10_hankel cX10_hankel 7 (some .int) ∈ wAll := wI4 11 (by decide +kernel) (by decide +kernel)
theorem mk_X11_hankel : mk yX11_hankel 3 := ⟨by decide +kernel, w_110⟩
theorem w_1791 : Cond.methodLink "QuarterWalksLaw" 107 yX11_hankel ∈ wAll := wI8 16 (by decide +kernel) (by decide +kernel)
theorem w_1792 : Cond.instanceMethod yX11_hankel ∈ wAll := wI8 17 (by decide +kernel) (by decide +kernel)
theorem w_1793 : Cond.selects yX11_hankel.cls yX11_hankel yX11_hankel ∈ wAll := wI8 18 (by decide +kernel) (by decide +kernel)
theorem w_1794 : Cond.code yX11_hankel cX11_hankel 6 (some .int) ∈ wAll := wI8 19 (by decide +kernel) (by decide +kernel)
theorem mk_X10_convolved : mk yX10_convolved 5 := ⟨by decide +kernel, w_96⟩
theorem w_831 : Cond.methodLink "QuarterWalksLaw" 108 yX10_convolved ∈ wAll := wI4 16 (by decide +kernel) (by decide +kernel)
theorem w_832 : Cond.instanceMethod yX10_convolved ∈ wAll := wI4 17 (by decide +kernel) (by decide +kernel)
theorem w_833 : Cond.selects yX10_convolved.cls yX10_convolved yX10_convolved ∈ wAll := wI4 18 (by decide +kernel) (by decide +kernel)
theorem w_834 : Cond.code yX10_convolved cX10_convolved 11 (some .int) ∈ wAll := wI4 19 (by decide +kernel) (by decide +kernel)
theorem mk_X11_convolved : mk yX11_convolved 5 := ⟨by decide +kernel, w_110⟩
theorem w_1767 : Cond.methodLink "QuarterWalksLaw" 111 yX11_convolved ∈ wAll := wI7 232 (by decide +kernel) (by decide +kernel)
theorem w_1768 : Cond.instanceMethod yX11_convolved ∈ wAll := wI7 233 (by decide +kernel) (by decide +kernel)
theorem w_1769 : Cond.selects yX11_convolved.cls yX11_convolved yX11_convolved ∈ wAll := wI7 234 (by decide +kernel) (by decide +kernel)
theorem w_1770 : Cond.code yX11_convolved cX11_convolved 9 (some .int) ∈ wAll := wI7 235 (by decide +kernel) (by decide +kernel)
theorem mk_X10_out : mk yX10_out 2 := ⟨by decide +kernel, w_96⟩
theorem w_835 : Cond.methodLink "QuarterWalksLaw" 112 yX10_out ∈ wAll := wI4 20 (by decide +kernel) (by decide +kernel)
theorem w_836 : Cond.instanceMethod yX10_out ∈ wAll := wI4 21 (by decide +kernel) (by decide +kernel)
theorem w_837 : Cond.selects yX10_out.cls yX10_out yX10_out ∈ wAll := wI4 22 (by decide +kernel) (by decide +kernel)
theorem w_838 : Cond.code yX10_out cX10_out 4 (some .int) ∈ wAll := wI4 23 (by decide +kernel) (by decide +kernel)
theorem mk_X11_out : mk yX11_out 2 := ⟨by decide +kernel, w_110⟩
theorem w_1749 : Cond.methodLink "QuarterWalksLaw" 115 yX11_out ∈ wAll := wI7 214 (by decide +kernel) (by decide +kernel)
theorem w_1750 : Cond.instanceMethod yX11_out ∈ wAll := wI7 215 (by decide +kernel) (by decide +kernel)
theorem w_1751 : Cond.selects yX11_out.cls yX11_out yX11_out ∈ wAll := wI7 216 (by decide +kernel) (by decide +kernel)
theorem w_1752 : Cond.code yX11_out cX11_out 9 (some .int) ∈ wAll := wI7 217 (by decide +kernel) (by decide +kernel)
theorem mk_X10_arches : mk yX10_arches 2 := ⟨by decide +kernel, w_96⟩
theorem w_847 : Cond.methodLink "QuarterWalksLaw" 116 yX10_arches ∈ wAll := wI4 32 (by decide +kernel) (by decide +kernel)
theorem w_848 : Cond.instanceMethod yX10_arches ∈ wAll := wI4 33 (by decide +kernel) (by decide +kernel)
theorem w_849 : Cond.selects yX10_arches.cls yX10_arches yX10_arches ∈ wAll := wI4 34 (by decide +kernel) (by decide +kernel)
theorem w_850 : Cond.code yX10_arches cX10_arches 8 (some .int) ∈ wAll := wI4 35 (by decide +kernel) (by decide +kernel)
theorem mk_X11_arches : mk yX11_arches 2 := ⟨by decide +kernel, w_110⟩
theorem w_1753 : Cond.methodLink "QuarterWalksLaw" 119 yX11_arches ∈ wAll := wI7 218 (by decide +kernel) (by decide +kernel)
theorem w_1754 : Cond.instanceMethod yX11_arches ∈ wAll := wI7 219 (by decide +kernel) (by decide +kernel)
theorem w_1755 : Cond.selects yX11_arches.cls yX11_arches yX11_arches ∈ wAll := wI7 220 (by decide +kernel) (by decide +kernel)
theorem w_1756 : Cond.code yX11_arches cX11_arches 7 (some .int) ∈ wAll := wI7 221 (by decide +kernel) (by decide +kernel)
theorem mk_X10_value : mk yX10_value 4 := ⟨by decide +kernel, w_96⟩
theorem w_851 : Cond.methodLink "QuarterWalksLaw" 120 yX10_value ∈ wAll := wI4 36 (by decide +kernel) (by decide +kernel)
theorem w_852 : Cond.instanceMethod yX10_value ∈ wAll := wI4 37 (by decide +kernel) (by decide +kernel)
theorem w_853 : Cond.selects yX10_value.cls yX10_value yX10_value ∈ wAll := wI4 38 (by decide +kernel) (by decide +kernel)
theorem w_854 : Cond.code yX10_value cX10_value 6 (some .int) ∈ wAll := wI4 39 (by decide +kernel) (by decide +kernel)
theorem mk_X11_value : mk yX11_value 4 := ⟨by decide +kernel, w_110⟩
theorem w_1762 : Cond.methodLink "QuarterWalksLaw" 123 yX11_value ∈ wAll := wI7 227 (by decide +kernel) (by decide +kernel)
theorem w_1763 : Cond.instanceMethod yX11_value ∈ wAll := wI7 228 (by decide +kernel) (by decide +kernel)
theorem w_1764 : Cond.selects yX11_value.cls yX11_value yX11_value ∈ wAll := wI7 229 (by decide +kernel) (by decide +kernel)
theorem w_1765 : Cond.code yX11_value cX11_value 13 (some .int) ∈ wAll := wI7 230 (by decide +kernel) (by decide +kernel)
theorem mk_X10_walk : mk yX10_walk 6 := ⟨by decide +kernel, w_96⟩
theorem w_860 : Cond.methodLink "QuarterWalksLaw" 124 yX10_walk ∈ wAll := wI4 45 (by decide +kernel) (by decide +kernel)
theorem w_861 : Cond.instanceMethod yX10_walk ∈ wAll := wI4 46 (by decide +kernel) (by decide +kernel)
theorem w_862 : Cond.selects yX10_walk.cls yX10_walk yX10_walk ∈ wAll := wI4 47 (by decide +kernel) (by decide +kernel)
theorem w_863 : Cond.code yX10_walk cX10_walk 9 (some .int) ∈ wAll := wI4 48 (by decide +kernel) (by decide +kernel)
theorem mk_X11_walk : mk yX11_walk 6 := ⟨by decide +kernel, w_110⟩
theorem w_1816 : Cond.methodLink "QuarterWalksLaw" 128 yX11_walk ∈ wAll := wI8 41 (by decide +kernel) (by decide +kernel)
theorem w_1817 : Cond.instanceMethod yX11_walk ∈ wAll := wI8 42 (by decide +kernel) (by decide +kernel)
theorem w_1818 : Cond.selects yX11_walk.cls yX11_walk yX11_walk ∈ wAll := wI8 43 (by decide +kernel) (by decide +kernel)
theorem w_1819 : Cond.code yX11_walk cX11_walk 9 (some .int) ∈ wAll := wI8 44 (by decide +kernel) (by decide +kernel)
theorem w_2058 : Cond.constantLong "QuarterWalksLaw" 129 4294967295 ∈ wAll := wI9 43 (by decide +kernel) (by decide +kernel)
theorem mk_X10_drawn : mk yX10_drawn 6 := ⟨by decide +kernel, w_96⟩
theorem w_890 : Cond.methodLink "QuarterWalksLaw" 131 yX10_drawn ∈ wAll := wI4 75 (by decide +kernel) (by decide +kernel)
theorem w_891 : Cond.instanceMethod yX10_drawn ∈ wAll := wI4 76 (by decide +kernel) (by decide +kernel)
theorem w_892 : Cond.selects yX10_drawn.cls yX10_drawn yX10_drawn ∈ wAll := wI4 77 (by decide +kernel) (by decide +kernel)
theorem w_893 : Cond.code yX10_drawn cX10_drawn 12 (some .int) ∈ wAll := wI4 78 (by decide +kernel) (by decide +kernel)
theorem mk_X11_drawn : mk yX11_drawn 6 := ⟨by decide +kernel, w_110⟩
theorem w_1836 : Cond.methodLink "QuarterWalksLaw" 135 yX11_drawn ∈ wAll := wI8 61 (by decide +kernel) (by decide +kernel)
theorem w_1837 : Cond.instanceMethod yX11_drawn ∈ wAll := wI8 62 (by decide +kernel) (by decide +kernel)
theorem w_1838 : Cond.selects yX11_drawn.cls yX11_drawn yX11_drawn ∈ wAll := wI8 63 (by decide +kernel) (by decide +kernel)
theorem w_1839 : Cond.code yX11_drawn cX11_drawn 12 (some .int) ∈ wAll := wI8 64 (by decide +kernel) (by decide +kernel)
theorem mk_X10_peak : mk yX10_peak 3 := ⟨by decide +kernel, w_96⟩
theorem w_896 : Cond.methodLink "QuarterWalksLaw" 136 yX10_peak ∈ wAll := wI4 81 (by decide +kernel) (by decide +kernel)
theorem w_897 : Cond.instanceMethod yX10_peak ∈ wAll := wI4 82 (by decide +kernel) (by decide +kernel)
theorem w_898 : Cond.selects yX10_peak.cls yX10_peak yX10_peak ∈ wAll := wI4 83 (by decide +kernel) (by decide +kernel)
theorem w_899 : Cond.code yX10_peak cX10_peak 5 (some .int) ∈ wAll := wI4 84 (by decide +kernel) (by decide +kernel)
theorem mk_X11_peak : mk yX11_peak 3 := ⟨by decide +kernel, w_110⟩
theorem w_1842 : Cond.methodLink "QuarterWalksLaw" 139 yX11_peak ∈ wAll := wI8 67 (by decide +kernel) (by decide +kernel)
theorem w_1843 : Cond.instanceMethod yX11_peak ∈ wAll := wI8 68 (by decide +kernel) (by decide +kernel)
theorem w_1844 : Cond.selects yX11_peak.cls yX11_peak yX11_peak ∈ wAll := wI8 69 (by decide +kernel) (by decide +kernel)
theorem w_1845 : Cond.code yX11_peak cX11_peak 10 (some .int) ∈ wAll := wI8 70 (by decide +kernel) (by decide +kernel)
theorem mk_X10_points : mk yX10_points 2 := ⟨by decide +kernel, w_96⟩
theorem w_905 : Cond.methodLink "QuarterWalksLaw" 140 yX10_points ∈ wAll := wI4 90 (by decide +kernel) (by decide +kernel)
theorem w_906 : Cond.instanceMethod yX10_points ∈ wAll := wI4 91 (by decide +kernel) (by decide +kernel)
theorem w_907 : Cond.selects yX10_points.cls yX10_points yX10_points ∈ wAll := wI4 92 (by decide +kernel) (by decide +kernel)
theorem w_908 : Cond.code yX10_points cX10_points 4 (some .int) ∈ wAll := wI4 93 (by decide +kernel) (by decide +kernel)
theorem mk_X11_points : mk yX11_points 2 := ⟨by decide +kernel, w_110⟩
theorem w_1846 : Cond.methodLink "QuarterWalksLaw" 143 yX11_points ∈ wAll := wI8 71 (by decide +kernel) (by decide +kernel)
theorem w_1847 : Cond.instanceMethod yX11_points ∈ wAll := wI8 72 (by decide +kernel) (by decide +kernel)
theorem w_1848 : Cond.selects yX11_points.cls yX11_points yX11_points ∈ wAll := wI8 73 (by decide +kernel) (by decide +kernel)
theorem w_1849 : Cond.code yX11_points cX11_points 5 (some .int) ∈ wAll := wI8 74 (by decide +kernel) (by decide +kernel)
theorem mk_X10_fewest : mk yX10_fewest 3 := ⟨by decide +kernel, w_96⟩
theorem w_913 : Cond.methodLink "QuarterWalksLaw" 144 yX10_fewest ∈ wAll := wI4 98 (by decide +kernel) (by decide +kernel)
theorem w_914 : Cond.instanceMethod yX10_fewest ∈ wAll := wI4 99 (by decide +kernel) (by decide +kernel)
theorem w_915 : Cond.selects yX10_fewest.cls yX10_fewest yX10_fewest ∈ wAll := wI4 100 (by decide +kernel) (by decide +kernel)
theorem w_916 : Cond.code yX10_fewest cX10_fewest 6 (some .int) ∈ wAll := wI4 101 (by decide +kernel) (by decide +kernel)
theorem mk_X11_fewest : mk yX11_fewest 3 := ⟨by decide +kernel, w_110⟩
theorem w_1850 : Cond.methodLink "QuarterWalksLaw" 147 yX11_fewest ∈ wAll := wI8 75 (by decide +kernel) (by decide +kernel)
theorem w_1851 : Cond.instanceMethod yX11_fewest ∈ wAll := wI8 76 (by decide +kernel) (by decide +kernel)
theorem w_1852 : Cond.selects yX11_fewest.cls yX11_fewest yX11_fewest ∈ wAll := wI8 77 (by decide +kernel) (by decide +kernel)
theorem w_1853 : Cond.code yX11_fewest cX11_fewest 4 (some .int) ∈ wAll := wI8 78 (by decide +kernel) (by decide +kernel)
theorem mk_X10_period : mk yX10_period 1 := ⟨by decide +kernel, w_96⟩
theorem w_917 : Cond.methodLink "QuarterWalksLaw" 148 yX10_period ∈ wAll := wI4 102 (by decide +kernel) (by decide +kernel)
theorem w_918 : Cond.instanceMethod yX10_period ∈ wAll := wI4 103 (by decide +kernel) (by decide +kernel)
theorem w_919 : Cond.selects yX10_period.cls yX10_period yX10_period ∈ wAll := wI4 104 (by decide +kernel) (by decide +kernel)
theorem w_920 : Cond.code yX10_period cX10_period 5 (some .int) ∈ wAll := wI4 105 (by decide +kernel) (by decide +kernel)
theorem mk_X11_period : mk yX11_period 1 := ⟨by decide +kernel, w_110⟩
theorem w_1854 : Cond.methodLink "QuarterWalksLaw" 151 yX11_period ∈ wAll := wI8 79 (by decide +kernel) (by decide +kernel)
theorem w_1855 : Cond.instanceMethod yX11_period ∈ wAll := wI8 80 (by decide +kernel) (by decide +kernel)
theorem w_1856 : Cond.selects yX11_period.cls yX11_period yX11_period ∈ wAll := wI8 81 (by decide +kernel) (by decide +kernel)
theorem w_1857 : Cond.code yX11_period cX11_period 4 (some .int) ∈ wAll := wI8 82 (by decide +kernel) (by decide +kernel)
theorem mk_X10_meet : mk yX10_meet 3 := ⟨by decide +kernel, w_96⟩
theorem w_924 : Cond.methodLink "QuarterWalksLaw" 152 yX10_meet ∈ wAll := wI4 109 (by decide +kernel) (by decide +kernel)
theorem w_925 : Cond.instanceMethod yX10_meet ∈ wAll := wI4 110 (by decide +kernel) (by decide +kernel)
theorem w_926 : Cond.selects yX10_meet.cls yX10_meet yX10_meet ∈ wAll := wI4 111 (by decide +kernel) (by decide +kernel)
theorem w_927 : Cond.code yX10_meet cX10_meet 6 (some .int) ∈ wAll := wI4 112 (by decide +kernel) (by decide +kernel)
theorem mk_X11_meet : mk yX11_meet 3 := ⟨by decide +kernel, w_110⟩
theorem w_1861 : Cond.methodLink "QuarterWalksLaw" 155 yX11_meet ∈ wAll := wI8 86 (by decide +kernel) (by decide +kernel)
theorem w_1862 : Cond.instanceMethod yX11_meet ∈ wAll := wI8 87 (by decide +kernel) (by decide +kernel)
theorem w_1863 : Cond.selects yX11_meet.cls yX11_meet yX11_meet ∈ wAll := wI8 88 (by decide +kernel) (by decide +kernel)
theorem w_1864 : Cond.code yX11_meet cX11_meet 7 (some .int) ∈ wAll := wI8 89 (by decide +kernel) (by decide +kernel)
theorem mk_X10_kernel : mk yX10_kernel 3 := ⟨by decide +kernel, w_96⟩
theorem w_937 : Cond.methodLink "QuarterWalksLaw" 156 yX10_kernel ∈ wAll := wI4 122 (by decide +kernel) (by decide +kernel)
theorem w_938 : Cond.instanceMethod yX10_kernel ∈ wAll := wI4 123 (by decide +kernel) (by decide +kernel)
theorem w_939 : Cond.selects yX10_kernel.cls yX10_kernel yX10_kernel ∈ wAll := wI4 124 (by decide +kernel) (by decide +kernel)
theorem w_940 : Cond.code yX10_kernel cX10_kernel 5 (some .int) ∈ wAll := wI4 125 (by decide +kernel) (by decide +kernel)
theorem mk_X11_kernel : mk yX11_kernel 3 := ⟨by decide +kernel, w_110⟩
theorem w_1865 : Cond.methodLink "QuarterWalksLaw" 159 yX11_kernel ∈ wAll := wI8 90 (by decide +kernel) (by decide +kernel)
theorem w_1866 : Cond.instanceMethod yX11_kernel ∈ wAll := wI8 91 (by decide +kernel) (by decide +kernel)
theorem w_1867 : Cond.selects yX11_kernel.cls yX11_kernel yX11_kernel ∈ wAll := wI8 92 (by decide +kernel) (by decide +kernel)
theorem w_1868 : Cond.code yX11_kernel cX11_kernel 7 (some .int) ∈ wAll := wI8 93 (by decide +kernel) (by decide +kernel)
theorem mk_X10_turned : mk yX10_turned 4 := ⟨by decide +kernel, w_96⟩
theorem w_953 : Cond.methodLink "QuarterWalksLaw" 160 yX10_turned ∈ wAll := wI4 138 (by decide +kernel) (by decide +kernel)
theorem w_954 : Cond.instanceMethod yX10_turned ∈ wAll := wI4 139 (by decide +kernel) (by decide +kernel)
theorem w_955 : Cond.selects yX10_turned.cls yX10_turned yX10_turned ∈ wAll := wI4 140 (by decide +kernel) (by decide +kernel)
theorem w_956 : Cond.code yX10_turned cX10_turned 6 (some .int) ∈ wAll := wI4 141 (by decide +kernel) (by decide +kernel)
theorem mk_X11_turned : mk yX11_turned 4 := ⟨by decide +kernel, w_110⟩
theorem w_1875 : Cond.methodLink "QuarterWalksLaw" 163 yX11_turned ∈ wAll := wI8 100 (by decide +kernel) (by decide +kernel)
theorem w_1876 : Cond.instanceMethod yX11_turned ∈ wAll := wI8 101 (by decide +kernel) (by decide +kernel)
theorem w_1877 : Cond.selects yX11_turned.cls yX11_turned yX11_turned ∈ wAll := wI8 102 (by decide +kernel) (by decide +kernel)
theorem w_1878 : Cond.code yX11_turned cX11_turned 5 (some .int) ∈ wAll := wI8 103 (by decide +kernel) (by decide +kernel)
theorem mk_X10_orbit : mk yX10_orbit 5 := ⟨by decide +kernel, w_96⟩
theorem w_966 : Cond.methodLink "QuarterWalksLaw" 164 yX10_orbit ∈ wAll := wI4 151 (by decide +kernel) (by decide +kernel)
theorem w_967 : Cond.instanceMethod yX10_orbit ∈ wAll := wI4 152 (by decide +kernel) (by decide +kernel)
theorem w_968 : Cond.selects yX10_orbit.cls yX10_orbit yX10_orbit ∈ wAll := wI4 153 (by decide +kernel) (by decide +kernel)
theorem w_969 : Cond.code yX10_orbit cX10_orbit 9 (some .int) ∈ wAll := wI4 154 (by decide +kernel) (by decide +kernel)
theorem mk_X11_orbit : mk yX11_orbit 5 := ⟨by decide +kernel, w_110⟩
theorem w_1887 : Cond.methodLink "QuarterWalksLaw" 167 yX11_orbit ∈ wAll := wI8 112 (by decide +kernel) (by decide +kernel)
theorem w_1888 : Cond.instanceMethod yX11_orbit ∈ wAll := wI8 113 (by decide +kernel) (by decide +kernel)
theorem w_1889 : Cond.selects yX11_orbit.cls yX11_orbit yX11_orbit ∈ wAll := wI8 114 (by decide +kernel) (by decide +kernel)
theorem w_1890 : Cond.code yX11_orbit cX11_orbit 7 (some .int) ∈ wAll := wI8 115 (by decide +kernel) (by decide +kernel)
theorem mk_X10_group : mk yX10_group 1 := ⟨by decide +kernel, w_96⟩
theorem w_976 : Cond.methodLink "QuarterWalksLaw" 168 yX10_group ∈ wAll := wI4 161 (by decide +kernel) (by decide +kernel)
theorem w_977 : Cond.instanceMethod yX10_group ∈ wAll := wI4 162 (by decide +kernel) (by decide +kernel)
theorem w_978 : Cond.selects yX10_group.cls yX10_group yX10_group ∈ wAll := wI4 163 (by decide +kernel) (by decide +kernel)
theorem w_979 : Cond.code yX10_group cX10_group 3 (some .int) ∈ wAll := wI4 164 (by decide +kernel) (by decide +kernel)
theorem mk_X11_group : mk yX11_group 1 := ⟨by decide +kernel, w_110⟩
theorem w_1895 : Cond.methodLink "QuarterWalksLaw" 171 yX11_group ∈ wAll := wI8 120 (by decide +kernel) (by decide +kernel)
theorem w_1896 : Cond.instanceMethod yX11_group ∈ wAll := wI8 121 (by decide +kernel) (by decide +kernel)
theorem w_1897 : Cond.selects yX11_group.cls yX11_group yX11_group ∈ wAll := wI8 122 (by decide +kernel) (by decide +kernel)
theorem w_1898 : Cond.code yX11_group cX11_group 2 (some .int) ∈ wAll := wI8 123 (by decide +kernel) (by decide +kernel)
theorem mk_X10_sum : mk yX10_sum 3 := ⟨by decide +kernel, w_96⟩
theorem w_986 : Cond.methodLink "QuarterWalksLaw" 172 yX10_sum ∈ wAll := wI4 171 (by decide +kernel) (by decide +kernel)
theorem w_987 : Cond.instanceMethod yX10_sum ∈ wAll := wI4 172 (by decide +kernel) (by decide +kernel)
theorem w_988 : Cond.selects yX10_sum.cls yX10_sum yX10_sum ∈ wAll := wI4 173 (by decide +kernel) (by decide +kernel)
theorem w_989 : Cond.code yX10_sum cX10_sum 6 (some .int) ∈ wAll := wI4 174 (by decide +kernel) (by decide +kernel)
theorem mk_X11_sum : mk yX11_sum 3 := ⟨by decide +kernel, w_110⟩
theorem w_1904 : Cond.methodLink "QuarterWalksLaw" 175 yX11_sum ∈ wAll := wI8 129 (by decide +kernel) (by decide +kernel)
theorem w_1905 : Cond.instanceMethod yX11_sum ∈ wAll := wI8 130 (by decide +kernel) (by decide +kernel)
theorem w_1906 : Cond.selects yX11_sum.cls yX11_sum yX11_sum ∈ wAll := wI8 131 (by decide +kernel) (by decide +kernel)
theorem w_1907 : Cond.code yX11_sum cX11_sum 10 (some .int) ∈ wAll := wI8 132 (by decide +kernel) (by decide +kernel)
theorem mk_X10_noUse : mk yX10_noUse 1 := ⟨by decide +kernel, w_96⟩
theorem w_994 : Cond.methodLink "QuarterWalksLaw" 176 yX10_noUse ∈ wAll := wI4 179 (by decide +kernel) (by decide +kernel)
theorem w_995 : Cond.instanceMethod yX10_noUse ∈ wAll := wI4 180 (by decide +kernel) (by decide +kernel)
theorem w_996 : Cond.selects yX10_noUse.cls yX10_noUse yX10_noUse ∈ wAll := wI4 181 (by decide +kernel) (by decide +kernel)
theorem w_997 : Cond.code yX10_noUse cX10_noUse 5 (some .int) ∈ wAll := wI4 182 (by decide +kernel) (by decide +kernel)
theorem mk_X11_noUse : mk yX11_noUse 1 := ⟨by decide +kernel, w_110⟩
theorem w_1908 : Cond.methodLink "QuarterWalksLaw" 179 yX11_noUse ∈ wAll := wI8 133 (by decide +kernel) (by decide +kernel)
theorem w_1909 : Cond.instanceMethod yX11_noUse ∈ wAll := wI8 134 (by decide +kernel) (by decide +kernel)
theorem w_1910 : Cond.selects yX11_noUse.cls yX11_noUse yX11_noUse ∈ wAll := wI8 135 (by decide +kernel) (by decide +kernel)
theorem w_1911 : Cond.code yX11_noUse cX11_noUse 7 (some .int) ∈ wAll := wI8 136 (by decide +kernel) (by decide +kernel)
theorem mk_X10_enough : mk yX10_enough 1 := ⟨by decide +kernel, w_96⟩
theorem w_1006 : Cond.methodLink "QuarterWalksLaw" 180 yX10_enough ∈ wAll := wI4 191 (by decide +kernel) (by decide +kernel)
theorem w_1007 : Cond.instanceMethod yX10_enough ∈ wAll := wI4 192 (by decide +kernel) (by decide +kernel)
theorem w_1008 : Cond.selects yX10_enough.cls yX10_enough yX10_enough ∈ wAll := wI4 193 (by decide +kernel) (by decide +kernel)
theorem w_1009 : Cond.code yX10_enough cX10_enough 3 (some .int) ∈ wAll := wI4 194 (by decide +kernel) (by decide +kernel)
theorem mk_X11_enough : mk yX11_enough 1 := ⟨by decide +kernel, w_110⟩
theorem w_1912 : Cond.methodLink "QuarterWalksLaw" 183 yX11_enough ∈ wAll := wI8 137 (by decide +kernel) (by decide +kernel)
theorem w_1913 : Cond.instanceMethod yX11_enough ∈ wAll := wI8 138 (by decide +kernel) (by decide +kernel)
theorem w_1914 : Cond.selects yX11_enough.cls yX11_enough yX11_enough ∈ wAll := wI8 139 (by decide +kernel) (by decide +kernel)
theorem w_1915 : Cond.code yX11_enough cX11_enough 2 (some .int) ∈ wAll := wI8 140 (by decide +kernel) (by decide +kernel)
theorem mk_X10_alike : mk yX10_alike 1 := ⟨by decide +kernel, w_96⟩
theorem w_1015 : Cond.methodLink "QuarterWalksLaw" 184 yX10_alike ∈ wAll := wI4 200 (by decide +kernel) (by decide +kernel)
theorem w_1016 : Cond.instanceMethod yX10_alike ∈ wAll := wI4 201 (by decide +kernel) (by decide +kernel)
theorem w_1017 : Cond.selects yX10_alike.cls yX10_alike yX10_alike ∈ wAll := wI4 202 (by decide +kernel) (by decide +kernel)
theorem w_1018 : Cond.code yX10_alike cX10_alike 5 (some .int) ∈ wAll := wI4 203 (by decide +kernel) (by decide +kernel)
theorem mk_X11_alike : mk yX11_alike 1 := ⟨by decide +kernel, w_110⟩
theorem w_1920 : Cond.methodLink "QuarterWalksLaw" 187 yX11_alike ∈ wAll := wI8 145 (by decide +kernel) (by decide +kernel)
theorem w_1921 : Cond.instanceMethod yX11_alike ∈ wAll := wI8 146 (by decide +kernel) (by decide +kernel)
theorem w_1922 : Cond.selects yX11_alike.cls yX11_alike yX11_alike ∈ wAll := wI8 147 (by decide +kernel) (by decide +kernel)
theorem w_1923 : Cond.code yX11_alike cX11_alike 3 (some .int) ∈ wAll := wI8 148 (by decide +kernel) (by decide +kernel)
theorem mk_X10_recurrence : mk yX10_recurrence 6 := ⟨by decide +kernel, w_96⟩
theorem w_1022 : Cond.methodLink "QuarterWalksLaw" 188 yX10_recurrence ∈ wAll := wI4 207 (by decide +kernel) (by decide +kernel)
theorem w_1023 : Cond.instanceMethod yX10_recurrence ∈ wAll := wI4 208 (by decide +kernel) (by decide +kernel)
theorem w_1024 : Cond.selects yX10_recurrence.cls yX10_recurrence yX10_recurrence ∈ wAll := wI4 209 (by decide +kernel) (by decide +kernel)
theorem w_1025 : Cond.code yX10_recurrence cX10_recurrence 8 (some .int) ∈ wAll := wI4 210 (by decide +kernel) (by decide +kernel)
theorem mk_X11_recurrence : mk yX11_recurrence 6 := ⟨by decide +kernel, w_110⟩
theorem w_1928 : Cond.methodLink "QuarterWalksLaw" 191 yX11_recurrence ∈ wAll := wI8 153 (by decide +kernel) (by decide +kernel)
theorem w_1929 : Cond.instanceMethod yX11_recurrence ∈ wAll := wI8 154 (by decide +kernel) (by decide +kernel)
theorem w_1930 : Cond.selects yX11_recurrence.cls yX11_recurrence yX11_recurrence ∈ wAll := wI8 155 (by decide +kernel) (by decide +kernel)
theorem w_1931 : Cond.code yX11_recurrence cX11_recurrence 7 (some .int) ∈ wAll := wI8 156 (by decide +kernel) (by decide +kernel)
theorem mk_X10_fails : mk yX10_fails 4 := ⟨by decide +kernel, w_96⟩
theorem w_1067 : Cond.methodLink "QuarterWalksLaw" 192 yX10_fails ∈ wAll := wI5 12 (by decide +kernel) (by decide +kernel)
theorem w_1068 : Cond.instanceMethod yX10_fails ∈ wAll := wI5 13 (by decide +kernel) (by decide +kernel)
theorem w_1069 : Cond.selects yX10_fails.cls yX10_fails yX10_fails ∈ wAll := wI5 14 (by decide +kernel) (by decide +kernel)
theorem w_1070 : Cond.code yX10_fails cX10_fails 5 (some .int) ∈ wAll := wI5 15 (by decide +kernel) (by decide +kernel)
theorem mk_X11_fails_ : mk yX11_fails_ 4 := ⟨by decide +kernel, w_110⟩
theorem w_1973 : Cond.methodLink "QuarterWalksLaw" 195 yX11_fails_ ∈ wAll := wI8 198 (by decide +kernel) (by decide +kernel)
theorem w_1974 : Cond.instanceMethod yX11_fails_ ∈ wAll := wI8 199 (by decide +kernel) (by decide +kernel)
theorem w_1975 : Cond.selects yX11_fails_.cls yX11_fails_ yX11_fails_ ∈ wAll := wI8 200 (by decide +kernel) (by decide +kernel)
theorem w_1976 : Cond.code yX11_fails_ cX11_fails_ 5 (some .int) ∈ wAll := wI8 201 (by decide +kernel) (by decide +kernel)
theorem mk_X10_equation : mk yX10_equation 6 := ⟨by decide +kernel, w_96⟩
theorem w_1079 : Cond.methodLink "QuarterWalksLaw" 196 yX10_equation ∈ wAll := wI5 24 (by decide +kernel) (by decide +kernel)
theorem w_1080 : Cond.instanceMethod yX10_equation ∈ wAll := wI5 25 (by decide +kernel) (by decide +kernel)
theorem w_1081 : Cond.selects yX10_equation.cls yX10_equation yX10_equation ∈ wAll := wI5 26 (by decide +kernel) (by decide +kernel)
theorem w_1082 : Cond.code yX10_equation cX10_equation 8 (some .int) ∈ wAll := wI5 27 (by decide +kernel) (by decide +kernel)
theorem mk_X11_equation : mk yX11_equation 6 := ⟨by decide +kernel, w_110⟩
theorem w_1985 : Cond.methodLink "QuarterWalksLaw" 199 yX11_equation ∈ wAll := wI8 210 (by decide +kernel) (by decide +kernel)
theorem w_1986 : Cond.instanceMethod yX11_equation ∈ wAll := wI8 211 (by decide +kernel) (by decide +kernel)
theorem w_1987 : Cond.selects yX11_equation.cls yX11_equation yX11_equation ∈ wAll := wI8 212 (by decide +kernel) (by decide +kernel)
theorem w_1988 : Cond.code yX11_equation cX11_equation 7 (some .int) ∈ wAll := wI8 213 (by decide +kernel) (by decide +kernel)
theorem mk_X10_breaks : mk yX10_breaks 4 := ⟨by decide +kernel, w_96⟩
theorem w_1083 : Cond.methodLink "QuarterWalksLaw" 200 yX10_breaks ∈ wAll := wI5 28 (by decide +kernel) (by decide +kernel)
theorem w_1084 : Cond.instanceMethod yX10_breaks ∈ wAll := wI5 29 (by decide +kernel) (by decide +kernel)
theorem w_1085 : Cond.selects yX10_breaks.cls yX10_breaks yX10_breaks ∈ wAll := wI5 30 (by decide +kernel) (by decide +kernel)
theorem w_1086 : Cond.code yX10_breaks cX10_breaks 5 (some .int) ∈ wAll := wI5 31 (by decide +kernel) (by decide +kernel)
theorem mk_X11_breaks : mk yX11_breaks 4 := ⟨by decide +kernel, w_110⟩
theorem w_1989 : Cond.methodLink "QuarterWalksLaw" 203 yX11_breaks ∈ wAll := wI8 214 (by decide +kernel) (by decide +kernel)
theorem w_1990 : Cond.instanceMethod yX11_breaks ∈ wAll := wI8 215 (by decide +kernel) (by decide +kernel)
theorem w_1991 : Cond.selects yX11_breaks.cls yX11_breaks yX11_breaks ∈ wAll := wI8 216 (by decide +kernel) (by decide +kernel)
theorem w_1992 : Cond.code yX11_breaks cX11_breaks 5 (some .int) ∈ wAll := wI8 217 (by decide +kernel) (by decide +kernel)
theorem mk_X10_least : mk yX10_least 3 := ⟨by decide +kernel, w_96⟩
theorem w_1087 : Cond.methodLink "QuarterWalksLaw" 204 yX10_least ∈ wAll := wI5 32 (by decide +kernel) (by decide +kernel)
theorem w_1088 : Cond.instanceMethod yX10_least ∈ wAll := wI5 33 (by decide +kernel) (by decide +kernel)
theorem w_1089 : Cond.selects yX10_least.cls yX10_least yX10_least ∈ wAll := wI5 34 (by decide +kernel) (by decide +kernel)
theorem w_1090 : Cond.code yX10_least cX10_least 5 (some .int) ∈ wAll := wI5 35 (by decide +kernel) (by decide +kernel)
theorem mk_X11_least : mk yX11_least 3 := ⟨by decide +kernel, w_110⟩
theorem w_1993 : Cond.methodLink "QuarterWalksLaw" 207 yX11_least ∈ wAll := wI8 218 (by decide +kernel) (by decide +kernel)
theorem w_1994 : Cond.instanceMethod yX11_least ∈ wAll := wI8 219 (by decide +kernel) (by decide +kernel)
theorem w_1995 : Cond.selects yX11_least.cls yX11_least yX11_least ∈ wAll := wI8 220 (by decide +kernel) (by decide +kernel)
theorem w_1996 : Cond.code yX11_least cX11_least 9 (some .int) ∈ wAll := wI8 221 (by decide +kernel) (by decide +kernel)
theorem mk_X10_written : mk yX10_written 2 := ⟨by decide +kernel, w_96⟩
theorem w_1096 : Cond.methodLink "QuarterWalksLaw" 208 yX10_written ∈ wAll := wI5 41 (by decide +kernel) (by decide +kernel)
theorem w_1097 : Cond.instanceMethod yX10_written ∈ wAll := wI5 42 (by decide +kernel) (by decide +kernel)
theorem w_1098 : Cond.selects yX10_written.cls yX10_written yX10_written ∈ wAll := wI5 43 (by decide +kernel) (by decide +kernel)
theorem w_1099 : Cond.code yX10_written cX10_written 4 (some .int) ∈ wAll := wI5 44 (by decide +kernel) (by decide +kernel)
theorem mk_X11_written : mk yX11_written 2 := ⟨by decide +kernel, w_110⟩
theorem w_1997 : Cond.methodLink "QuarterWalksLaw" 211 yX11_written ∈ wAll := wI8 222 (by decide +kernel) (by decide +kernel)
theorem w_1998 : Cond.instanceMethod yX11_written ∈ wAll := wI8 223 (by decide +kernel) (by decide +kernel)
theorem w_1999 : Cond.selects yX11_written.cls yX11_written yX11_written ∈ wAll := wI8 224 (by decide +kernel) (by decide +kernel)
theorem w_2000 : Cond.code yX11_written cX11_written 3 (some .int) ∈ wAll := wI8 225 (by decide +kernel) (by decide +kernel)
theorem mk_X10_undo : mk yX10_undo 0 := ⟨by decide +kernel, w_96⟩
theorem w_1285 : Cond.methodLink "QuarterWalksLaw" 212 yX10_undo ∈ wAll := wI5 230 (by decide +kernel) (by decide +kernel)
theorem w_1286 : Cond.instanceMethod yX10_undo ∈ wAll := wI5 231 (by decide +kernel) (by decide +kernel)
theorem w_1287 : Cond.selects yX10_undo.cls yX10_undo yX10_undo ∈ wAll := wI5 232 (by decide +kernel) (by decide +kernel)
theorem w_1288 : Cond.code yX10_undo cX10_undo 1 (some .int) ∈ wAll := wI5 233 (by decide +kernel) (by decide +kernel)
theorem mk_X11_undo : mk yX11_undo 0 := ⟨by decide +kernel, w_110⟩
theorem w_2018 : Cond.methodLink "QuarterWalksLaw" 215 yX11_undo ∈ wAll := wI9 3 (by decide +kernel) (by decide +kernel)
theorem w_2019 : Cond.instanceMethod yX11_undo ∈ wAll := wI9 4 (by decide +kernel) (by decide +kernel)
theorem w_2020 : Cond.selects yX11_undo.cls yX11_undo yX11_undo ∈ wAll := wI9 5 (by decide +kernel) (by decide +kernel)
theorem w_2021 : Cond.code yX11_undo cX11_undo 2 (some .int) ∈ wAll := wI9 6 (by decide +kernel) (by decide +kernel)
theorem mk_X10_image : mk yX10_image 0 := ⟨by decide +kernel, w_96⟩
theorem w_1293 : Cond.methodLink "QuarterWalksLaw" 216 yX10_image ∈ wAll := wI5 238 (by decide +kernel) (by decide +kernel)
theorem w_1294 : Cond.instanceMethod yX10_image ∈ wAll := wI5 239 (by decide +kernel) (by decide +kernel)
theorem w_1295 : Cond.selects yX10_image.cls yX10_image yX10_image ∈ wAll := wI6 0 (by decide +kernel) (by decide +kernel)
theorem w_1296 : Cond.code yX10_image cX10_image 1 (some .int) ∈ wAll := wI6 1 (by decide +kernel) (by decide +kernel)
theorem mk_X11_image : mk yX11_image 0 := ⟨by decide +kernel, w_110⟩
theorem w_2022 : Cond.methodLink "QuarterWalksLaw" 219 yX11_image ∈ wAll := wI9 7 (by decide +kernel) (by decide +kernel)
theorem w_2023 : Cond.instanceMethod yX11_image ∈ wAll := wI9 8 (by decide +kernel) (by decide +kernel)
theorem w_2024 : Cond.selects yX11_image.cls yX11_image yX11_image ∈ wAll := wI9 9 (by decide +kernel) (by decide +kernel)
theorem w_2025 : Cond.code yX11_image cX11_image 2 (some .int) ∈ wAll := wI9 10 (by decide +kernel) (by decide +kernel)
theorem mk_X10_back : mk yX10_back 0 := ⟨by decide +kernel, w_96⟩
theorem w_1301 : Cond.methodLink "QuarterWalksLaw" 220 yX10_back ∈ wAll := wI6 6 (by decide +kernel) (by decide +kernel)
theorem w_1302 : Cond.instanceMethod yX10_back ∈ wAll := wI6 7 (by decide +kernel) (by decide +kernel)
theorem w_1303 : Cond.selects yX10_back.cls yX10_back yX10_back ∈ wAll := wI6 8 (by decide +kernel) (by decide +kernel)
theorem w_1304 : Cond.code yX10_back cX10_back 1 (some .int) ∈ wAll := wI6 9 (by decide +kernel) (by decide +kernel)
theorem mk_X11_back : mk yX11_back 0 := ⟨by decide +kernel, w_110⟩
theorem w_2026 : Cond.methodLink "QuarterWalksLaw" 223 yX11_back ∈ wAll := wI9 11 (by decide +kernel) (by decide +kernel)
theorem w_2027 : Cond.instanceMethod yX11_back ∈ wAll := wI9 12 (by decide +kernel) (by decide +kernel)
theorem w_2028 : Cond.selects yX11_back.cls yX11_back yX11_back ∈ wAll := wI9 13 (by decide +kernel) (by decide +kernel)
theorem w_2029 : Cond.code yX11_back cX11_back 2 (some .int) ∈ wAll := wI9 14 (by decide +kernel) (by decide +kernel)
theorem mk_X10_status : mk yX10_status 1 := ⟨by decide +kernel, w_96⟩
theorem w_1309 : Cond.methodLink "QuarterWalksLaw" 224 yX10_status ∈ wAll := wI6 14 (by decide +kernel) (by decide +kernel)
theorem w_1310 : Cond.instanceMethod yX10_status ∈ wAll := wI6 15 (by decide +kernel) (by decide +kernel)
theorem w_1311 : Cond.selects yX10_status.cls yX10_status yX10_status ∈ wAll := wI6 16 (by decide +kernel) (by decide +kernel)
theorem w_1312 : Cond.code yX10_status cX10_status 2 (some .int) ∈ wAll := wI6 17 (by decide +kernel) (by decide +kernel)
theorem mk_X11_status : mk yX11_status 1 := ⟨by decide +kernel, w_110⟩
theorem w_2030 : Cond.methodLink "QuarterWalksLaw" 227 yX11_status ∈ wAll := wI9 15 (by decide +kernel) (by decide +kernel)
theorem w_2031 : Cond.instanceMethod yX11_status ∈ wAll := wI9 16 (by decide +kernel) (by decide +kernel)
theorem w_2032 : Cond.selects yX11_status.cls yX11_status yX11_status ∈ wAll := wI9 17 (by decide +kernel) (by decide +kernel)
theorem w_2033 : Cond.code yX11_status cX11_status 2 (some .int) ∈ wAll := wI9 18 (by decide +kernel) (by decide +kernel)
theorem mk_X10_most : mk yX10_most 1 := ⟨by decide +kernel, w_96⟩
theorem w_1313 : Cond.methodLink "QuarterWalksLaw" 228 yX10_most ∈ wAll := wI6 18 (by decide +kernel) (by decide +kernel)
theorem w_1314 : Cond.instanceMethod yX10_most ∈ wAll := wI6 19 (by decide +kernel) (by decide +kernel)
theorem w_1315 : Cond.selects yX10_most.cls yX10_most yX10_most ∈ wAll := wI6 20 (by decide +kernel) (by decide +kernel)
theorem w_1316 : Cond.code yX10_most cX10_most 2 (some .int) ∈ wAll := wI6 21 (by decide +kernel) (by decide +kernel)
theorem mk_X11_most : mk yX11_most 1 := ⟨by decide +kernel, w_110⟩
theorem w_2034 : Cond.methodLink "QuarterWalksLaw" 231 yX11_most ∈ wAll := wI9 19 (by decide +kernel) (by decide +kernel)
theorem w_2035 : Cond.instanceMethod yX11_most ∈ wAll := wI9 20 (by decide +kernel) (by decide +kernel)
theorem w_2036 : Cond.selects yX11_most.cls yX11_most yX11_most ∈ wAll := wI9 21 (by decide +kernel) (by decide +kernel)
theorem w_2037 : Cond.code yX11_most cX11_most 4 (some .int) ∈ wAll := wI9 22 (by decide +kernel) (by decide +kernel)
theorem mk_X10_count : mk yX10_count 1 := ⟨by decide +kernel, w_96⟩
theorem w_1348 : Cond.methodLink "QuarterWalksLaw" 232 yX10_count ∈ wAll := wI6 53 (by decide +kernel) (by decide +kernel)
theorem w_1349 : Cond.instanceMethod yX10_count ∈ wAll := wI6 54 (by decide +kernel) (by decide +kernel)
theorem w_1350 : Cond.selects yX10_count.cls yX10_count yX10_count ∈ wAll := wI6 55 (by decide +kernel) (by decide +kernel)
theorem w_1351 : Cond.code yX10_count cX10_count 2 (some .int) ∈ wAll := wI6 56 (by decide +kernel) (by decide +kernel)
theorem mk_X11_count : mk yX11_count 1 := ⟨by decide +kernel, w_110⟩
theorem w_2054 : Cond.methodLink "QuarterWalksLaw" 235 yX11_count ∈ wAll := wI9 39 (by decide +kernel) (by decide +kernel)
theorem w_2055 : Cond.instanceMethod yX11_count ∈ wAll := wI9 40 (by decide +kernel) (by decide +kernel)
theorem w_2056 : Cond.selects yX11_count.cls yX11_count yX11_count ∈ wAll := wI9 41 (by decide +kernel) (by decide +kernel)
theorem w_2057 : Cond.code yX11_count cX11_count 2 (some .int) ∈ wAll := wI9 42 (by decide +kernel) (by decide +kernel)
theorem mk_X11_rule : mk yX11_rule 2 := ⟨by decide +kernel, w_110⟩
theorem w_1666 : Cond.methodLink "QuarterWalksLaw" 73 yX11_rule ∈ wAll := wI7 131 (by decide +kernel) (by decide +kernel)
theorem w_1667 : Cond.instanceMethod yX11_rule ∈ wAll := wI7 132 (by decide +kernel) (by decide +kernel)
theorem w_1668 : Cond.selects yX11_rule.cls yX11_rule yX11_rule ∈ wAll := wI7 133 (by decide +kernel) (by decide +kernel)
theorem w_1669 : Cond.code yX11_rule cX11_rule 3 (some .int) ∈ wAll := wI7 134 (by decide +kernel) (by decide +kernel)
set_option maxRecDepth 100000 in
set_option maxHeartbeats 4000000 in
theorem law_0 {p : Program} {l : Launch} {e : Env} {s : State} {m : MethodId} {below : List Frame} {meth : Method} {c : Code} (hst : l.stackTraces = false) {b L : Nat} {xs : Nat → Int32} (C0 : lw_At p s m meth c b L xs) {D : va_G} {G : Nat → Nat} {b0 : Nat} (hb0 : s.heap.size = b0) (hE0 : hE D G b0 s s.heap) {i : Int32} (hin : ∀ k : Int32, 0 ≤ k.toInt → k.toInt ≤ 7 → vp_in (i + k) L) {τ : Nat → Nat} {f : hM} {K sh qs M : Nat → Nat} {o : Nat} (h0 : LI G τ f K sh qs M o) {H : Heap} {locs : List Loc} {ls : Array Slot} (h : hw D b0 s.heap f H locs) (hl : lv_has ls 7 [(4, .int i), (3, .ref o), (2, .ref (M 0)), (1, .ref (K 0)), (0, .ref b)]) {cells slots : Nat} (hc : cells + 49 ≤ 601024) (hs : slots + 4900 ≤ 7293034) {Q : State → Prop} (kk : ∀ (τ1 : Nat → Nat) (f1 : hM) (H1 : Heap) (locs1 : List Loc) (ls1 : Array Slot), LI G τ1 f1 K sh qs M o → hw D b0 s.heap f1 H1 locs1 → lv_has ls1 7 [(4, .int i), (3, .ref o), (2, .ref (M 0)), (1, .ref (K 0)), (0, .ref b)] → W p l e room_1 s m #[Value.ref b] below meth c H1 locs1 (cells + 49) (slots + 4900) Q (F0 m 2564 ls1 [])) : W p l e room_1 s m #[Value.ref b] below meth c H locs cells slots Q (F0 m 260 ls []) := by
  obtain ⟨hx, hb, hr, hml, hown, hts0, hXs, hbl, hlk, hgv⟩ := id C0
  have hts : ∀ w ∈ wAll, w.before #[Value.ref b] s = true := fun w hw => hts0 w (wAll_tbl w hw)
  have C : hC p s m #[Value.ref b] meth c cL_law 7 RL D G b0 := ⟨hx, hb, hml, hown, hts, hE0, hlk⟩
  have hbA : ¬ hA b0 b := by rw [← hb0]; exact Nat.not_le.mpr hbl
  refine lv_aload_n hx hb dL_law_260 rfl (lv_at hl 3 rfl) ?_
  refine law_arg (v := 1) hx hb hXs hbl hbA h.2.2.1 (hin 1 (by decide) (by decide)) (lv_at hl 0 rfl) (lv_at hl 4 rfl) (by decide) dL_law_261 dL_law_262 dL_law_264 dL_law_265 dL_law_266 ?_
  refine law_arg (v := 2) hx hb hXs hbl hbA h.2.2.1 (hin 2 (by decide) (by decide)) (lv_at hl 0 rfl) (lv_at hl 4 rfl) (by decide) dL_law_267 dL_law_268 dL_law_270 dL_law_271 dL_law_272 ?_
  refine law_arg (v := 3) hx hb hXs hbl hbA h.2.2.1 (hin 3 (by decide) (by decide)) (lv_at hl 0 rfl) (lv_at hl 4 rfl) (by decide) dL_law_273 dL_law_274 dL_law_276 dL_law_277 dL_law_278 ?_
  refine law_arg (v := 4) hx hb hXs hbl hbA h.2.2.1 (hin 4 (by decide) (by decide)) (lv_at hl 0 rfl) (lv_at hl 4 rfl) (by decide) dL_law_279 dL_law_280 dL_law_282 dL_law_283 dL_law_284 ?_
  refine law_arg (v := 5) hx hb hXs hbl hbA h.2.2.1 (hin 5 (by decide) (by decide)) (lv_at hl 0 rfl) (lv_at hl 4 rfl) (by decide) dL_law_285 dL_law_286 dL_law_288 dL_law_289 dL_law_290 ?_
  obtain ⟨fs_, kc_⟩ := h0.cx
  refine k_i (r_V C h hl (As := [.int (xs (Int32.toNatClampNeg (i + 1))), .int (xs (Int32.toNatClampNeg (i + 2))), .int (xs (Int32.toNatClampNeg (i + 3))), .int (xs (Int32.toNatClampNeg (i + 4))), .int (xs (Int32.toNatClampNeg (i + 5)))]) (rest := []) (lx_0 l D G b0 h0 _ _ _ _ _) kc_ (Cn := RX10) (T := TX10) (N := 10) rfl rfl mk_X10_feed w_410 w_411 w_412 w_413 ⟨Nat.le_of_ble_eq_true rfl, Nat.le_of_ble_eq_true rfl⟩ rfl (Nat.le_of_ble_eq_true rfl) ⟨law_c1 hc (Nat.le_of_ble_eq_true rfl), law_s1 hs (Nat.le_of_ble_eq_true rfl)⟩ rfl dL_law_291) h (fun r291 f H locs hp h => ?_)
  obtain ⟨τ, h0⟩ := hp
  refine lv_pop hx hb dL_law_294 rfl ?_
  refine lv_aload_n hx hb dL_law_295 rfl (lv_at hl 2 rfl) ?_
  refine law_arg (v := 1) hx hb hXs hbl hbA h.2.2.1 (hin 1 (by decide) (by decide)) (lv_at hl 0 rfl) (lv_at hl 4 rfl) (by decide) dL_law_296 dL_law_297 dL_law_299 dL_law_300 dL_law_301 ?_
  refine law_arg (v := 2) hx hb hXs hbl hbA h.2.2.1 (hin 2 (by decide) (by decide)) (lv_at hl 0 rfl) (lv_at hl 4 rfl) (by decide) dL_law_302 dL_law_303 dL_law_305 dL_law_306 dL_law_307 ?_
  refine law_arg (v := 3) hx hb hXs hbl hbA h.2.2.1 (hin 3 (by decide) (by decide)) (lv_at hl 0 rfl) (lv_at hl 4 rfl) (by decide) dL_law_308 dL_law_309 dL_law_311 dL_law_312 dL_law_313 ?_
  refine law_arg (v := 4) hx hb hXs hbl hbA h.2.2.1 (hin 4 (by decide) (by decide)) (lv_at hl 0 rfl) (lv_at hl 4 rfl) (by decide) dL_law_314 dL_law_315 dL_law_317 dL_law_318 dL_law_319 ?_
  refine law_arg (v := 5) hx hb hXs hbl hbA h.2.2.1 (hin 5 (by decide) (by decide)) (lv_at hl 0 rfl) (lv_at hl 4 rfl) (by decide) dL_law_320 dL_law_321 dL_law_323 dL_law_324 dL_law_325 ?_
  obtain ⟨fs_, kc_⟩ := h0.cm
  refine k_i (r_V C h hl (As := [.int (xs (Int32.toNatClampNeg (i + 1))), .int (xs (Int32.toNatClampNeg (i + 2))), .int (xs (Int32.toNatClampNeg (i + 3))), .int (xs (Int32.toNatClampNeg (i + 4))), .int (xs (Int32.toNatClampNeg (i + 5)))]) (rest := []) (lm_0 l D G b0 _ _ _ _ _ h0) kc_ (Cn := RX11) (T := TX11) (N := 32) rfl rfl mk_X11_feed w_1530 w_1531 w_1532 w_1533 ⟨Nat.le_of_ble_eq_true rfl, Nat.le_of_ble_eq_true rfl⟩ rfl (Nat.le_of_ble_eq_true rfl) ⟨law_c2 hc (Nat.le_of_ble_eq_true rfl), law_s2 hs (Nat.le_of_ble_eq_true rfl)⟩ rfl dL_law_326) h (fun r326 f H locs hp h => ?_)
  obtain ⟨τ, h0⟩ := hp
  refine lv_pop hx hb dL_law_329 rfl ?_
  refine lv_goto (tgt := 2564) hx hb dL_law_330 (by decide) ?_
  refine W.widen (k := cells + 49) (n := slots + 4900) (law_w (Nat.le_of_ble_eq_true rfl)) (law_w (Nat.le_of_ble_eq_true rfl)) ?_
  exact kk _ _ _ _ _ h0 h (lv_sub hl [0, 1, 2, 3, 4] rfl)
set_option maxRecDepth 100000 in
set_option maxHeartbeats 4000000 in
theorem law_1 {p : Program} {l : Launch} {e : Env} {s : State} {m : MethodId} {below : List Frame} {meth : Method} {c : Code} (hst : l.stackTraces = false) {b L : Nat} {xs : Nat → Int32} (C0 : lw_At p s m meth c b L xs) {D : va_G} {G : Nat → Nat} {b0 : Nat} (hb0 : s.heap.size = b0) (hE0 : hE D G b0 s s.heap) {i : Int32} (hin : ∀ k : Int32, 0 ≤ k.toInt → k.toInt ≤ 7 → vp_in (i + k) L) {τ : Nat → Nat} {f : hM} {K sh qs M : Nat → Nat} {o : Nat} (h0 : LI G τ f K sh qs M o) {H : Heap} {locs : List Loc} {ls : Array Slot} (h : hw D b0 s.heap f H locs) (hl : lv_has ls 7 [(4, .int i), (3, .ref o), (2, .ref (M 0)), (1, .ref (K 0)), (0, .ref b)]) {cells slots : Nat} (hc : cells + 49 ≤ 601024) (hs : slots + 4900 ≤ 7293034) {Q : State → Prop} (kk : ∀ (τ1 : Nat → Nat) (f1 : hM) (H1 : Heap) (locs1 : List Loc) (ls1 : Array Slot), LI G τ1 f1 K sh qs M o → hw D b0 s.heap f1 H1 locs1 → lv_has ls1 7 [(4, .int i), (3, .ref o), (2, .ref (M 0)), (1, .ref (K 0)), (0, .ref b)] → W p l e room_1 s m #[Value.ref b] below meth c H1 locs1 (cells + 49) (slots + 4900) Q (F0 m 2564 ls1 [])) : W p l e room_1 s m #[Value.ref b] below meth c H locs cells slots Q (F0 m 333 ls []) := by
  obtain ⟨hx, hb, hr, hml, hown, hts0, hXs, hbl, hlk, hgv⟩ := id C0
  have hts : ∀ w ∈ wAll, w.before #[Value.ref b] s = true := fun w hw => hts0 w (wAll_tbl w hw)
  have C : hC p s m #[Value.ref b] meth c cL_law 7 RL D G b0 := ⟨hx, hb, hml, hown, hts, hE0, hlk⟩
  have hbA : ¬ hA b0 b := by rw [← hb0]; exact Nat.not_le.mpr hbl
  refine lv_aload_n hx hb dL_law_333 rfl (lv_at hl 3 rfl) ?_
  refine law_arg (v := 1) hx hb hXs hbl hbA h.2.2.1 (hin 1 (by decide) (by decide)) (lv_at hl 0 rfl) (lv_at hl 4 rfl) (by decide) dL_law_334 dL_law_335 dL_law_337 dL_law_338 dL_law_339 ?_
  obtain ⟨fs_, kc_⟩ := h0.cx
  refine k_i (r_V C h hl (As := [.int (xs (Int32.toNatClampNeg (i + 1)))]) (rest := []) (lx_1 l D G b0 h0 _) kc_ (Cn := RX10) (T := TX10) (N := 10) rfl rfl mk_X10_end w_421 w_422 w_423 w_424 ⟨Nat.le_of_ble_eq_true rfl, Nat.le_of_ble_eq_true rfl⟩ rfl (Nat.le_of_ble_eq_true rfl) ⟨law_c1 hc (Nat.le_of_ble_eq_true rfl), law_s1 hs (Nat.le_of_ble_eq_true rfl)⟩ rfl dL_law_340) h (fun r340 f H locs hp h => ?_)
  obtain ⟨τ, h0⟩ := hp
  refine lv_pop hx hb dL_law_343 rfl ?_
  refine lv_aload_n hx hb dL_law_344 rfl (lv_at hl 2 rfl) ?_
  refine law_arg (v := 1) hx hb hXs hbl hbA h.2.2.1 (hin 1 (by decide) (by decide)) (lv_at hl 0 rfl) (lv_at hl 4 rfl) (by decide) dL_law_345 dL_law_346 dL_law_348 dL_law_349 dL_law_350 ?_
  obtain ⟨fs_, kc_⟩ := h0.cm
  refine k_i (r_V C h hl (As := [.int (xs (Int32.toNatClampNeg (i + 1)))]) (rest := []) (lm_1 l D G b0 _ h0) kc_ (Cn := RX11) (T := TX11) (N := 32) rfl rfl mk_X11_end w_1541 w_1542 w_1543 w_1544 ⟨Nat.le_of_ble_eq_true rfl, Nat.le_of_ble_eq_true rfl⟩ rfl (Nat.le_of_ble_eq_true rfl) ⟨law_c2 hc (Nat.le_of_ble_eq_true rfl), law_s2 hs (Nat.le_of_ble_eq_true rfl)⟩ rfl dL_law_351) h (fun r351 f H locs hp h => ?_)
  obtain ⟨τ, h0⟩ := hp
  refine lv_pop hx hb dL_law_354 rfl ?_
  refine lv_goto (tgt := 2564) hx hb dL_law_355 (by decide) ?_
  refine W.widen (k := cells + 49) (n := slots + 4900) (law_w (Nat.le_of_ble_eq_true rfl)) (law_w (Nat.le_of_ble_eq_true rfl)) ?_
  exact kk _ _ _ _ _ h0 h (lv_sub hl [0, 1, 2, 3, 4] rfl)
set_option maxRecDepth 100000 in
set_option maxHeartbeats 4000000 in
theorem law_2 {p : Program} {l : Launch} {e : Env} {s : State} {m : MethodId} {below : List Frame} {meth : Method} {c : Code} (hst : l.stackTraces = false) {b L : Nat} {xs : Nat → Int32} (C0 : lw_At p s m meth c b L xs) {D : va_G} {G : Nat → Nat} {b0 : Nat} (hb0 : s.heap.size = b0) (hE0 : hE D G b0 s s.heap) {i : Int32} (hin : ∀ k : Int32, 0 ≤ k.toInt → k.toInt ≤ 7 → vp_in (i + k) L) {τ : Nat → Nat} {f : hM} {K sh qs M : Nat → Nat} {o : Nat} (h0 : LI G τ f K sh qs M o) {H : Heap} {locs : List Loc} {ls : Array Slot} (h : hw D b0 s.heap f H locs) (hl : lv_has ls 7 [(4, .int i), (3, .ref o), (2, .ref (M 0)), (1, .ref (K 0)), (0, .ref b)]) {cells slots : Nat} (hc : cells + 49 ≤ 601024) (hs : slots + 4900 ≤ 7293034) {Q : State → Prop} (kk : ∀ (τ1 : Nat → Nat) (f1 : hM) (H1 : Heap) (locs1 : List Loc) (ls1 : Array Slot), LI G τ1 f1 K sh qs M o → hw D b0 s.heap f1 H1 locs1 → lv_has ls1 7 [(4, .int i), (3, .ref o), (2, .ref (M 0)), (1, .ref (K 0)), (0, .ref b)] → W p l e room_1 s m #[Value.ref b] below meth c H1 locs1 (cells + 49) (slots + 4900) Q (F0 m 2564 ls1 [])) : W p l e room_1 s m #[Value.ref b] below meth c H locs cells slots Q (F0 m 358 ls []) := by
  obtain ⟨hx, hb, hr, hml, hown, hts0, hXs, hbl, hlk, hgv⟩ := id C0
  have hts : ∀ w ∈ wAll, w.before #[Value.ref b] s = true := fun w hw => hts0 w (wAll_tbl w hw)
  have C : hC p s m #[Value.ref b] meth c cL_law 7 RL D G b0 := ⟨hx, hb, hml, hown, hts, hE0, hlk⟩
  have hbA : ¬ hA b0 b := by rw [← hb0]; exact Nat.not_le.mpr hbl
  refine lv_aload_n hx hb dL_law_358 rfl (lv_at hl 3 rfl) ?_
  obtain ⟨fs_, kc_⟩ := h0.cx
  refine k_i (r_V C h hl (As := []) (rest := []) (lx_2 l D G b0 h0) kc_ (Cn := RX10) (T := TX10) (N := 10) rfl rfl mk_X10_fault w_428 w_429 w_430 w_431 ⟨Nat.le_of_ble_eq_true rfl, Nat.le_of_ble_eq_true rfl⟩ rfl (Nat.le_of_ble_eq_true rfl) ⟨law_c1 hc (Nat.le_of_ble_eq_true rfl), law_s1 hs (Nat.le_of_ble_eq_true rfl)⟩ rfl dL_law_359) h (fun r359 f H locs hp h => ?_)
  obtain ⟨τ, h0⟩ := hp
  refine lv_pop hx hb dL_law_362 rfl ?_
  refine lv_aload_n hx hb dL_law_363 rfl (lv_at hl 2 rfl) ?_
  obtain ⟨fs_, kc_⟩ := h0.cm
  refine k_i (r_V C h hl (As := []) (rest := []) (lm_2 l D G b0 h0) kc_ (Cn := RX11) (T := TX11) (N := 32) rfl rfl mk_X11_fault w_1545 w_1546 w_1547 w_1548 ⟨Nat.le_of_ble_eq_true rfl, Nat.le_of_ble_eq_true rfl⟩ rfl (Nat.le_of_ble_eq_true rfl) ⟨law_c2 hc (Nat.le_of_ble_eq_true rfl), law_s2 hs (Nat.le_of_ble_eq_true rfl)⟩ rfl dL_law_364) h (fun r364 f H locs hp h => ?_)
  obtain ⟨τ, h0⟩ := hp
  refine lv_pop hx hb dL_law_367 rfl ?_
  refine lv_goto (tgt := 2564) hx hb dL_law_368 (by decide) ?_
  refine W.widen (k := cells + 49) (n := slots + 4900) (law_w (Nat.le_of_ble_eq_true rfl)) (law_w (Nat.le_of_ble_eq_true rfl)) ?_
  exact kk _ _ _ _ _ h0 h (lv_sub hl [0, 1, 2, 3, 4] rfl)
set_option maxRecDepth 100000 in
set_option maxHeartbeats 4000000 in
theorem law_3 {p : Program} {l : Launch} {e : Env} {s : State} {m : MethodId} {below : List Frame} {meth : Method} {c : Code} (hst : l.stackTraces = false) {b L : Nat} {xs : Nat → Int32} (C0 : lw_At p s m meth c b L xs) {D : va_G} {G : Nat → Nat} {b0 : Nat} (hb0 : s.heap.size = b0) (hE0 : hE D G b0 s s.heap) {i : Int32} (hin : ∀ k : Int32, 0 ≤ k.toInt → k.toInt ≤ 7 → vp_in (i + k) L) {τ : Nat → Nat} {f : hM} {K sh qs M : Nat → Nat} {o : Nat} (h0 : LI G τ f K sh qs M o) {H : Heap} {locs : List Loc} {ls : Array Slot} (h : hw D b0 s.heap f H locs) (hl : lv_has ls 7 [(4, .int i), (3, .ref o), (2, .ref (M 0)), (1, .ref (K 0)), (0, .ref b)]) {cells slots : Nat} (hc : cells + 49 ≤ 601024) (hs : slots + 4900 ≤ 7293034) {Q : State → Prop} (kk : ∀ (τ1 : Nat → Nat) (f1 : hM) (H1 : Heap) (locs1 : List Loc) (ls1 : Array Slot), LI G τ1 f1 K sh qs M o → hw D b0 s.heap f1 H1 locs1 → lv_has ls1 7 [(4, .int i), (3, .ref o), (2, .ref (M 0)), (1, .ref (K 0)), (0, .ref b)] → W p l e room_1 s m #[Value.ref b] below meth c H1 locs1 (cells + 49) (slots + 4900) Q (F0 m 2564 ls1 [])) : W p l e room_1 s m #[Value.ref b] below meth c H locs cells slots Q (F0 m 371 ls []) := by
  obtain ⟨hx, hb, hr, hml, hown, hts0, hXs, hbl, hlk, hgv⟩ := id C0
  have hts : ∀ w ∈ wAll, w.before #[Value.ref b] s = true := fun w hw => hts0 w (wAll_tbl w hw)
  have C : hC p s m #[Value.ref b] meth c cL_law 7 RL D G b0 := ⟨hx, hb, hml, hown, hts, hE0, hlk⟩
  have hbA : ¬ hA b0 b := by rw [← hb0]; exact Nat.not_le.mpr hbl
  refine lv_aload_n hx hb dL_law_371 rfl (lv_at hl 3 rfl) ?_
  obtain ⟨fs_, kc_⟩ := h0.cx
  refine k_i (r_V C h hl (As := []) (rest := []) (lx_3 l D G b0 h0) kc_ (Cn := RX10) (T := TX10) (N := 10) rfl rfl mk_X10_tell w_515 w_516 w_517 w_518 ⟨Nat.le_of_ble_eq_true rfl, Nat.le_of_ble_eq_true rfl⟩ rfl (Nat.le_of_ble_eq_true rfl) ⟨law_c1 hc (Nat.le_of_ble_eq_true rfl), law_s1 hs (Nat.le_of_ble_eq_true rfl)⟩ rfl dL_law_372) h (fun r372 f H locs hp h => ?_)
  obtain ⟨τ, h0⟩ := hp
  refine lv_pop hx hb dL_law_375 rfl ?_
  refine lv_aload_n hx hb dL_law_376 rfl (lv_at hl 2 rfl) ?_
  obtain ⟨fs_, kc_⟩ := h0.cm
  refine k_i (r_V C h hl (As := []) (rest := []) (lm_3 l D G b0 h0) kc_ (Cn := RX11) (T := TX11) (N := 32) rfl rfl mk_X11_tell w_1600 w_1601 w_1602 w_1603 ⟨Nat.le_of_ble_eq_true rfl, Nat.le_of_ble_eq_true rfl⟩ rfl (Nat.le_of_ble_eq_true rfl) ⟨law_c2 hc (Nat.le_of_ble_eq_true rfl), law_s2 hs (Nat.le_of_ble_eq_true rfl)⟩ rfl dL_law_377) h (fun r377 f H locs hp h => ?_)
  obtain ⟨τ, h0⟩ := hp
  refine lv_pop hx hb dL_law_380 rfl ?_
  refine lv_goto (tgt := 2564) hx hb dL_law_381 (by decide) ?_
  refine W.widen (k := cells + 49) (n := slots + 4900) (law_w (Nat.le_of_ble_eq_true rfl)) (law_w (Nat.le_of_ble_eq_true rfl)) ?_
  exact kk _ _ _ _ _ h0 h (lv_sub hl [0, 1, 2, 3, 4] rfl)
set_option maxRecDepth 100000 in
set_option maxHeartbeats 4000000 in
theorem law_4 {p : Program} {l : Launch} {e : Env} {s : State} {m : MethodId} {below : List Frame} {meth : Method} {c : Code} (hst : l.stackTraces = false) {b L : Nat} {xs : Nat → Int32} (C0 : lw_At p s m meth c b L xs) {D : va_G} {G : Nat → Nat} {b0 : Nat} (hb0 : s.heap.size = b0) (hE0 : hE D G b0 s s.heap) {i : Int32} (hin : ∀ k : Int32, 0 ≤ k.toInt → k.toInt ≤ 7 → vp_in (i + k) L) {τ : Nat → Nat} {f : hM} {K sh qs M : Nat → Nat} {o : Nat} (h0 : LI G τ f K sh qs M o) {H : Heap} {locs : List Loc} {ls : Array Slot} (h : hw D b0 s.heap f H locs) (hl : lv_has ls 7 [(4, .int i), (3, .ref o), (2, .ref (M 0)), (1, .ref (K 0)), (0, .ref b)]) {cells slots : Nat} (hc : cells + 49 ≤ 601024) (hs : slots + 4900 ≤ 7293034) {Q : State → Prop} (kk : ∀ (τ1 : Nat → Nat) (f1 : hM) (H1 : Heap) (locs1 : List Loc) (ls1 : Array Slot), LI G τ1 f1 K sh qs M o → hw D b0 s.heap f1 H1 locs1 → lv_has ls1 7 [(4, .int i), (3, .ref o), (2, .ref (M 0)), (1, .ref (K 0)), (0, .ref b)] → W p l e room_1 s m #[Value.ref b] below meth c H1 locs1 (cells + 49) (slots + 4900) Q (F0 m 2564 ls1 [])) : W p l e room_1 s m #[Value.ref b] below meth c H locs cells slots Q (F0 m 384 ls []) := by
  obtain ⟨hx, hb, hr, hml, hown, hts0, hXs, hbl, hlk, hgv⟩ := id C0
  have hts : ∀ w ∈ wAll, w.before #[Value.ref b] s = true := fun w hw => hts0 w (wAll_tbl w hw)
  have C : hC p s m #[Value.ref b] meth c cL_law 7 RL D G b0 := ⟨hx, hb, hml, hown, hts, hE0, hlk⟩
  have hbA : ¬ hA b0 b := by rw [← hb0]; exact Nat.not_le.mpr hbl
  refine lv_aload_n hx hb dL_law_384 rfl (lv_at hl 3 rfl) ?_
  refine law_arg (v := 1) hx hb hXs hbl hbA h.2.2.1 (hin 1 (by decide) (by decide)) (lv_at hl 0 rfl) (lv_at hl 4 rfl) (by decide) dL_law_385 dL_law_386 dL_law_388 dL_law_389 dL_law_390 ?_
  obtain ⟨fs_, kc_⟩ := h0.cx
  refine k_i (r_V C h hl (As := [.int (xs (Int32.toNatClampNeg (i + 1)))]) (rest := []) (lx_4 l D G b0 h0 _) kc_ (Cn := RX10) (T := TX10) (N := 10) rfl rfl mk_X10_drop w_590 w_591 w_592 w_593 ⟨Nat.le_of_ble_eq_true rfl, Nat.le_of_ble_eq_true rfl⟩ rfl (Nat.le_of_ble_eq_true rfl) ⟨law_c1 hc (Nat.le_of_ble_eq_true rfl), law_s1 hs (Nat.le_of_ble_eq_true rfl)⟩ rfl dL_law_391) h (fun r391 f H locs hp h => ?_)
  obtain ⟨τ, h0⟩ := hp
  refine lv_pop hx hb dL_law_394 rfl ?_
  refine lv_aload_n hx hb dL_law_395 rfl (lv_at hl 2 rfl) ?_
  refine law_arg (v := 1) hx hb hXs hbl hbA h.2.2.1 (hin 1 (by decide) (by decide)) (lv_at hl 0 rfl) (lv_at hl 4 rfl) (by decide) dL_law_396 dL_law_397 dL_law_399 dL_law_400 dL_law_401 ?_
  obtain ⟨fs_, kc_⟩ := h0.cm
  refine k_i (r_V C h hl (As := [.int (xs (Int32.toNatClampNeg (i + 1)))]) (rest := []) (lm_4 l D G b0 _ h0) kc_ (Cn := RX11) (T := TX11) (N := 32) rfl rfl mk_X11_drop w_1616 w_1617 w_1618 w_1619 ⟨Nat.le_of_ble_eq_true rfl, Nat.le_of_ble_eq_true rfl⟩ rfl (Nat.le_of_ble_eq_true rfl) ⟨law_c2 hc (Nat.le_of_ble_eq_true rfl), law_s2 hs (Nat.le_of_ble_eq_true rfl)⟩ rfl dL_law_402) h (fun r402 f H locs hp h => ?_)
  obtain ⟨τ, h0⟩ := hp
  refine lv_pop hx hb dL_law_405 rfl ?_
  refine lv_goto (tgt := 2564) hx hb dL_law_406 (by decide) ?_
  refine W.widen (k := cells + 49) (n := slots + 4900) (law_w (Nat.le_of_ble_eq_true rfl)) (law_w (Nat.le_of_ble_eq_true rfl)) ?_
  exact kk _ _ _ _ _ h0 h (lv_sub hl [0, 1, 2, 3, 4] rfl)
set_option maxRecDepth 100000 in
set_option maxHeartbeats 4000000 in
theorem law_5 {p : Program} {l : Launch} {e : Env} {s : State} {m : MethodId} {below : List Frame} {meth : Method} {c : Code} (hst : l.stackTraces = false) {b L : Nat} {xs : Nat → Int32} (C0 : lw_At p s m meth c b L xs) {D : va_G} {G : Nat → Nat} {b0 : Nat} (hb0 : s.heap.size = b0) (hE0 : hE D G b0 s s.heap) {i : Int32} (hin : ∀ k : Int32, 0 ≤ k.toInt → k.toInt ≤ 7 → vp_in (i + k) L) {τ : Nat → Nat} {f : hM} {K sh qs M : Nat → Nat} {o : Nat} (h0 : LI G τ f K sh qs M o) {H : Heap} {locs : List Loc} {ls : Array Slot} (h : hw D b0 s.heap f H locs) (hl : lv_has ls 7 [(4, .int i), (3, .ref o), (2, .ref (M 0)), (1, .ref (K 0)), (0, .ref b)]) {cells slots : Nat} (hc : cells + 49 ≤ 601024) (hs : slots + 4900 ≤ 7293034) {Q : State → Prop} (kk : ∀ (τ1 : Nat → Nat) (f1 : hM) (H1 : Heap) (locs1 : List Loc) (ls1 : Array Slot), LI G τ1 f1 K sh qs M o → hw D b0 s.heap f1 H1 locs1 → lv_has ls1 7 [(4, .int i), (3, .ref o), (2, .ref (M 0)), (1, .ref (K 0)), (0, .ref b)] → W p l e room_1 s m #[Value.ref b] below meth c H1 locs1 (cells + 49) (slots + 4900) Q (F0 m 2564 ls1 [])) : W p l e room_1 s m #[Value.ref b] below meth c H locs cells slots Q (F0 m 409 ls []) := by
  obtain ⟨hx, hb, hr, hml, hown, hts0, hXs, hbl, hlk, hgv⟩ := id C0
  have hts : ∀ w ∈ wAll, w.before #[Value.ref b] s = true := fun w hw => hts0 w (wAll_tbl w hw)
  have C : hC p s m #[Value.ref b] meth c cL_law 7 RL D G b0 := ⟨hx, hb, hml, hown, hts, hE0, hlk⟩
  have hbA : ¬ hA b0 b := by rw [← hb0]; exact Nat.not_le.mpr hbl
  refine lv_aload_n hx hb dL_law_409 rfl (lv_at hl 3 rfl) ?_
  refine law_arg (v := 1) hx hb hXs hbl hbA h.2.2.1 (hin 1 (by decide) (by decide)) (lv_at hl 0 rfl) (lv_at hl 4 rfl) (by decide) dL_law_410 dL_law_411 dL_law_413 dL_law_414 dL_law_415 ?_
  obtain ⟨fs_, kc_⟩ := h0.cx
  refine k_i (r_V C h hl (As := [.int (xs (Int32.toNatClampNeg (i + 1)))]) (rest := []) (lx_5 l D G b0 h0 _) kc_ (Cn := RX10) (T := TX10) (N := 10) rfl rfl mk_X10_mirror w_603 w_604 w_605 w_606 ⟨Nat.le_of_ble_eq_true rfl, Nat.le_of_ble_eq_true rfl⟩ rfl (Nat.le_of_ble_eq_true rfl) ⟨law_c1 hc (Nat.le_of_ble_eq_true rfl), law_s1 hs (Nat.le_of_ble_eq_true rfl)⟩ rfl dL_law_416) h (fun r416 f H locs hp h => ?_)
  obtain ⟨τ, h0⟩ := hp
  refine lv_pop hx hb dL_law_419 rfl ?_
  refine lv_aload_n hx hb dL_law_420 rfl (lv_at hl 2 rfl) ?_
  refine law_arg (v := 1) hx hb hXs hbl hbA h.2.2.1 (hin 1 (by decide) (by decide)) (lv_at hl 0 rfl) (lv_at hl 4 rfl) (by decide) dL_law_421 dL_law_422 dL_law_424 dL_law_425 dL_law_426 ?_
  obtain ⟨fs_, kc_⟩ := h0.cm
  refine k_i (r_V C h hl (As := [.int (xs (Int32.toNatClampNeg (i + 1)))]) (rest := []) (lm_5 l D G b0 _ h0) kc_ (Cn := RX11) (T := TX11) (N := 32) rfl rfl mk_X11_mirror w_1627 w_1628 w_1629 w_1630 ⟨Nat.le_of_ble_eq_true rfl, Nat.le_of_ble_eq_true rfl⟩ rfl (Nat.le_of_ble_eq_true rfl) ⟨law_c2 hc (Nat.le_of_ble_eq_true rfl), law_s2 hs (Nat.le_of_ble_eq_true rfl)⟩ rfl dL_law_427) h (fun r427 f H locs hp h => ?_)
  obtain ⟨τ, h0⟩ := hp
  refine lv_pop hx hb dL_law_430 rfl ?_
  refine lv_goto (tgt := 2564) hx hb dL_law_431 (by decide) ?_
  refine W.widen (k := cells + 49) (n := slots + 4900) (law_w (Nat.le_of_ble_eq_true rfl)) (law_w (Nat.le_of_ble_eq_true rfl)) ?_
  exact kk _ _ _ _ _ h0 h (lv_sub hl [0, 1, 2, 3, 4] rfl)
set_option maxRecDepth 100000 in
set_option maxHeartbeats 4000000 in
theorem law_6 {p : Program} {l : Launch} {e : Env} {s : State} {m : MethodId} {below : List Frame} {meth : Method} {c : Code} (hst : l.stackTraces = false) {b L : Nat} {xs : Nat → Int32} (C0 : lw_At p s m meth c b L xs) {D : va_G} {G : Nat → Nat} {b0 : Nat} (hb0 : s.heap.size = b0) (hE0 : hE D G b0 s s.heap) {i : Int32} (hin : ∀ k : Int32, 0 ≤ k.toInt → k.toInt ≤ 7 → vp_in (i + k) L) {τ : Nat → Nat} {f : hM} {K sh qs M : Nat → Nat} {o : Nat} (h0 : LI G τ f K sh qs M o) {H : Heap} {locs : List Loc} {ls : Array Slot} (h : hw D b0 s.heap f H locs) (hl : lv_has ls 7 [(4, .int i), (3, .ref o), (2, .ref (M 0)), (1, .ref (K 0)), (0, .ref b)]) {cells slots : Nat} (hc : cells + 49 ≤ 601024) (hs : slots + 4900 ≤ 7293034) {Q : State → Prop} (kk : ∀ (τ1 : Nat → Nat) (f1 : hM) (H1 : Heap) (locs1 : List Loc) (ls1 : Array Slot), LI G τ1 f1 K sh qs M o → hw D b0 s.heap f1 H1 locs1 → lv_has ls1 7 [(4, .int i), (3, .ref o), (2, .ref (M 0)), (1, .ref (K 0)), (0, .ref b)] → W p l e room_1 s m #[Value.ref b] below meth c H1 locs1 (cells + 49) (slots + 4900) Q (F0 m 2564 ls1 [])) : W p l e room_1 s m #[Value.ref b] below meth c H locs cells slots Q (F0 m 434 ls []) := by
  obtain ⟨hx, hb, hr, hml, hown, hts0, hXs, hbl, hlk, hgv⟩ := id C0
  have hts : ∀ w ∈ wAll, w.before #[Value.ref b] s = true := fun w hw => hts0 w (wAll_tbl w hw)
  have C : hC p s m #[Value.ref b] meth c cL_law 7 RL D G b0 := ⟨hx, hb, hml, hown, hts, hE0, hlk⟩
  have hbA : ¬ hA b0 b := by rw [← hb0]; exact Nat.not_le.mpr hbl
  refine lv_aload_n hx hb dL_law_434 rfl (lv_at hl 3 rfl) ?_
  refine law_arg (v := 1) hx hb hXs hbl hbA h.2.2.1 (hin 1 (by decide) (by decide)) (lv_at hl 0 rfl) (lv_at hl 4 rfl) (by decide) dL_law_435 dL_law_436 dL_law_438 dL_law_439 dL_law_440 ?_
  obtain ⟨fs_, kc_⟩ := h0.cx
  refine k_i (r_V C h hl (As := [.int (xs (Int32.toNatClampNeg (i + 1)))]) (rest := []) (lx_6 l D G b0 h0 _) kc_ (Cn := RX10) (T := TX10) (N := 10) rfl rfl mk_X10_turn w_615 w_616 w_617 w_618 ⟨Nat.le_of_ble_eq_true rfl, Nat.le_of_ble_eq_true rfl⟩ rfl (Nat.le_of_ble_eq_true rfl) ⟨law_c1 hc (Nat.le_of_ble_eq_true rfl), law_s1 hs (Nat.le_of_ble_eq_true rfl)⟩ rfl dL_law_441) h (fun r441 f H locs hp h => ?_)
  obtain ⟨τ, h0⟩ := hp
  refine lv_pop hx hb dL_law_444 rfl ?_
  refine lv_aload_n hx hb dL_law_445 rfl (lv_at hl 2 rfl) ?_
  refine law_arg (v := 1) hx hb hXs hbl hbA h.2.2.1 (hin 1 (by decide) (by decide)) (lv_at hl 0 rfl) (lv_at hl 4 rfl) (by decide) dL_law_446 dL_law_447 dL_law_449 dL_law_450 dL_law_451 ?_
  obtain ⟨fs_, kc_⟩ := h0.cm
  refine k_i (r_V C h hl (As := [.int (xs (Int32.toNatClampNeg (i + 1)))]) (rest := []) (lm_6 l D G b0 _ h0) kc_ (Cn := RX11) (T := TX11) (N := 32) rfl rfl mk_X11_turn w_1635 w_1636 w_1637 w_1638 ⟨Nat.le_of_ble_eq_true rfl, Nat.le_of_ble_eq_true rfl⟩ rfl (Nat.le_of_ble_eq_true rfl) ⟨law_c2 hc (Nat.le_of_ble_eq_true rfl), law_s2 hs (Nat.le_of_ble_eq_true rfl)⟩ rfl dL_law_452) h (fun r452 f H locs hp h => ?_)
  obtain ⟨τ, h0⟩ := hp
  refine lv_pop hx hb dL_law_455 rfl ?_
  refine lv_goto (tgt := 2564) hx hb dL_law_456 (by decide) ?_
  refine W.widen (k := cells + 49) (n := slots + 4900) (law_w (Nat.le_of_ble_eq_true rfl)) (law_w (Nat.le_of_ble_eq_true rfl)) ?_
  exact kk _ _ _ _ _ h0 h (lv_sub hl [0, 1, 2, 3, 4] rfl)
set_option maxRecDepth 100000 in
set_option maxHeartbeats 4000000 in
theorem law_7 {p : Program} {l : Launch} {e : Env} {s : State} {m : MethodId} {below : List Frame} {meth : Method} {c : Code} (hst : l.stackTraces = false) {b L : Nat} {xs : Nat → Int32} (C0 : lw_At p s m meth c b L xs) {D : va_G} {G : Nat → Nat} {b0 : Nat} (hb0 : s.heap.size = b0) (hE0 : hE D G b0 s s.heap) {i : Int32} (hin : ∀ k : Int32, 0 ≤ k.toInt → k.toInt ≤ 7 → vp_in (i + k) L) {τ : Nat → Nat} {f : hM} {K sh qs M : Nat → Nat} {o : Nat} (h0 : LI G τ f K sh qs M o) {H : Heap} {locs : List Loc} {ls : Array Slot} (h : hw D b0 s.heap f H locs) (hl : lv_has ls 7 [(4, .int i), (3, .ref o), (2, .ref (M 0)), (1, .ref (K 0)), (0, .ref b)]) {cells slots : Nat} (hc : cells + 49 ≤ 601024) (hs : slots + 4900 ≤ 7293034) {Q : State → Prop} (kk : ∀ (τ1 : Nat → Nat) (f1 : hM) (H1 : Heap) (locs1 : List Loc) (ls1 : Array Slot), LI G τ1 f1 K sh qs M o → hw D b0 s.heap f1 H1 locs1 → lv_has ls1 7 [(4, .int i), (3, .ref o), (2, .ref (M 0)), (1, .ref (K 0)), (0, .ref b)] → W p l e room_1 s m #[Value.ref b] below meth c H1 locs1 (cells + 49) (slots + 4900) Q (F0 m 2564 ls1 [])) : W p l e room_1 s m #[Value.ref b] below meth c H locs cells slots Q (F0 m 459 ls []) := by
  obtain ⟨hx, hb, hr, hml, hown, hts0, hXs, hbl, hlk, hgv⟩ := id C0
  have hts : ∀ w ∈ wAll, w.before #[Value.ref b] s = true := fun w hw => hts0 w (wAll_tbl w hw)
  have C : hC p s m #[Value.ref b] meth c cL_law 7 RL D G b0 := ⟨hx, hb, hml, hown, hts, hE0, hlk⟩
  have hbA : ¬ hA b0 b := by rw [← hb0]; exact Nat.not_le.mpr hbl
  refine lv_aload_n hx hb dL_law_459 rfl (lv_at hl 3 rfl) ?_
  refine law_arg (v := 1) hx hb hXs hbl hbA h.2.2.1 (hin 1 (by decide) (by decide)) (lv_at hl 0 rfl) (lv_at hl 4 rfl) (by decide) dL_law_460 dL_law_461 dL_law_463 dL_law_464 dL_law_465 ?_
  refine law_arg (v := 2) hx hb hXs hbl hbA h.2.2.1 (hin 2 (by decide) (by decide)) (lv_at hl 0 rfl) (lv_at hl 4 rfl) (by decide) dL_law_466 dL_law_467 dL_law_469 dL_law_470 dL_law_471 ?_
  obtain ⟨fs_, kc_⟩ := h0.cx
  refine k_i (r_V C h hl (As := [.int (xs (Int32.toNatClampNeg (i + 1))), .int (xs (Int32.toNatClampNeg (i + 2)))]) (rest := []) (lx_7 l D G b0 h0 _ _) kc_ (Cn := RX10) (T := TX10) (N := 10) rfl rfl mk_X10_join w_621 w_622 w_623 w_624 ⟨Nat.le_of_ble_eq_true rfl, Nat.le_of_ble_eq_true rfl⟩ rfl (Nat.le_of_ble_eq_true rfl) ⟨law_c1 hc (Nat.le_of_ble_eq_true rfl), law_s1 hs (Nat.le_of_ble_eq_true rfl)⟩ rfl dL_law_472) h (fun r472 f H locs hp h => ?_)
  obtain ⟨τ, h0⟩ := hp
  refine lv_pop hx hb dL_law_475 rfl ?_
  refine lv_aload_n hx hb dL_law_476 rfl (lv_at hl 2 rfl) ?_
  refine law_arg (v := 1) hx hb hXs hbl hbA h.2.2.1 (hin 1 (by decide) (by decide)) (lv_at hl 0 rfl) (lv_at hl 4 rfl) (by decide) dL_law_477 dL_law_478 dL_law_480 dL_law_481 dL_law_482 ?_
  refine law_arg (v := 2) hx hb hXs hbl hbA h.2.2.1 (hin 2 (by decide) (by decide)) (lv_at hl 0 rfl) (lv_at hl 4 rfl) (by decide) dL_law_483 dL_law_484 dL_law_486 dL_law_487 dL_law_488 ?_
  obtain ⟨fs_, kc_⟩ := h0.cm
  refine k_i (r_V C h hl (As := [.int (xs (Int32.toNatClampNeg (i + 1))), .int (xs (Int32.toNatClampNeg (i + 2)))]) (rest := []) (lm_7 l D G b0 _ _ h0) kc_ (Cn := RX11) (T := TX11) (N := 32) rfl rfl mk_X11_join w_1639 w_1640 w_1641 w_1642 ⟨Nat.le_of_ble_eq_true rfl, Nat.le_of_ble_eq_true rfl⟩ rfl (Nat.le_of_ble_eq_true rfl) ⟨law_c2 hc (Nat.le_of_ble_eq_true rfl), law_s2 hs (Nat.le_of_ble_eq_true rfl)⟩ rfl dL_law_489) h (fun r489 f H locs hp h => ?_)
  obtain ⟨τ, h0⟩ := hp
  refine lv_pop hx hb dL_law_492 rfl ?_
  refine lv_goto (tgt := 2564) hx hb dL_law_493 (by decide) ?_
  refine W.widen (k := cells + 49) (n := slots + 4900) (law_w (Nat.le_of_ble_eq_true rfl)) (law_w (Nat.le_of_ble_eq_true rfl)) ?_
  exact kk _ _ _ _ _ h0 h (lv_sub hl [0, 1, 2, 3, 4] rfl)
set_option maxRecDepth 100000 in
set_option maxHeartbeats 4000000 in
theorem law_8 {p : Program} {l : Launch} {e : Env} {s : State} {m : MethodId} {below : List Frame} {meth : Method} {c : Code} (hst : l.stackTraces = false) {b L : Nat} {xs : Nat → Int32} (C0 : lw_At p s m meth c b L xs) {D : va_G} {G : Nat → Nat} {b0 : Nat} (hb0 : s.heap.size = b0) (hE0 : hE D G b0 s s.heap) {i : Int32} (hin : ∀ k : Int32, 0 ≤ k.toInt → k.toInt ≤ 7 → vp_in (i + k) L) {τ : Nat → Nat} {f : hM} {K sh qs M : Nat → Nat} {o : Nat} (h0 : LI G τ f K sh qs M o) {H : Heap} {locs : List Loc} {ls : Array Slot} (h : hw D b0 s.heap f H locs) (hl : lv_has ls 7 [(4, .int i), (3, .ref o), (2, .ref (M 0)), (1, .ref (K 0)), (0, .ref b)]) {cells slots : Nat} (hc : cells + 49 ≤ 601024) (hs : slots + 4900 ≤ 7293034) {Q : State → Prop} (kk : ∀ (τ1 : Nat → Nat) (f1 : hM) (H1 : Heap) (locs1 : List Loc) (ls1 : Array Slot), LI G τ1 f1 K sh qs M o → hw D b0 s.heap f1 H1 locs1 → lv_has ls1 7 [(4, .int i), (3, .ref o), (2, .ref (M 0)), (1, .ref (K 0)), (0, .ref b)] → W p l e room_1 s m #[Value.ref b] below meth c H1 locs1 (cells + 49) (slots + 4900) Q (F0 m 2564 ls1 [])) : W p l e room_1 s m #[Value.ref b] below meth c H locs cells slots Q (F0 m 496 ls []) := by
  obtain ⟨hx, hb, hr, hml, hown, hts0, hXs, hbl, hlk, hgv⟩ := id C0
  have hts : ∀ w ∈ wAll, w.before #[Value.ref b] s = true := fun w hw => hts0 w (wAll_tbl w hw)
  have C : hC p s m #[Value.ref b] meth c cL_law 7 RL D G b0 := ⟨hx, hb, hml, hown, hts, hE0, hlk⟩
  have hbA : ¬ hA b0 b := by rw [← hb0]; exact Nat.not_le.mpr hbl
  refine lv_aload_n hx hb dL_law_496 rfl (lv_at hl 3 rfl) ?_
  refine law_arg (v := 1) hx hb hXs hbl hbA h.2.2.1 (hin 1 (by decide) (by decide)) (lv_at hl 0 rfl) (lv_at hl 4 rfl) (by decide) dL_law_497 dL_law_498 dL_law_500 dL_law_501 dL_law_502 ?_
  refine law_arg (v := 2) hx hb hXs hbl hbA h.2.2.1 (hin 2 (by decide) (by decide)) (lv_at hl 0 rfl) (lv_at hl 4 rfl) (by decide) dL_law_503 dL_law_504 dL_law_506 dL_law_507 dL_law_508 ?_
  obtain ⟨fs_, kc_⟩ := h0.cx
  refine k_i (r_V C h hl (As := [.int (xs (Int32.toNatClampNeg (i + 1))), .int (xs (Int32.toNatClampNeg (i + 2)))]) (rest := []) (lx_8 l D G b0 h0 _ _) kc_ (Cn := RX10) (T := TX10) (N := 10) rfl rfl mk_X10_scale w_628 w_629 w_630 w_631 ⟨Nat.le_of_ble_eq_true rfl, Nat.le_of_ble_eq_true rfl⟩ rfl (Nat.le_of_ble_eq_true rfl) ⟨law_c1 hc (Nat.le_of_ble_eq_true rfl), law_s1 hs (Nat.le_of_ble_eq_true rfl)⟩ rfl dL_law_509) h (fun r509 f H locs hp h => ?_)
  obtain ⟨τ, h0⟩ := hp
  refine lv_pop hx hb dL_law_512 rfl ?_
  refine lv_aload_n hx hb dL_law_513 rfl (lv_at hl 2 rfl) ?_
  refine law_arg (v := 1) hx hb hXs hbl hbA h.2.2.1 (hin 1 (by decide) (by decide)) (lv_at hl 0 rfl) (lv_at hl 4 rfl) (by decide) dL_law_514 dL_law_515 dL_law_517 dL_law_518 dL_law_519 ?_
  refine law_arg (v := 2) hx hb hXs hbl hbA h.2.2.1 (hin 2 (by decide) (by decide)) (lv_at hl 0 rfl) (lv_at hl 4 rfl) (by decide) dL_law_520 dL_law_521 dL_law_523 dL_law_524 dL_law_525 ?_
  obtain ⟨fs_, kc_⟩ := h0.cm
  refine k_i (r_V C h hl (As := [.int (xs (Int32.toNatClampNeg (i + 1))), .int (xs (Int32.toNatClampNeg (i + 2)))]) (rest := []) (lm_8 l D G b0 _ _ h0) kc_ (Cn := RX11) (T := TX11) (N := 32) rfl rfl mk_X11_scale w_1643 w_1644 w_1645 w_1646 ⟨Nat.le_of_ble_eq_true rfl, Nat.le_of_ble_eq_true rfl⟩ rfl (Nat.le_of_ble_eq_true rfl) ⟨law_c2 hc (Nat.le_of_ble_eq_true rfl), law_s2 hs (Nat.le_of_ble_eq_true rfl)⟩ rfl dL_law_526) h (fun r526 f H locs hp h => ?_)
  obtain ⟨τ, h0⟩ := hp
  refine lv_pop hx hb dL_law_529 rfl ?_
  refine lv_goto (tgt := 2564) hx hb dL_law_530 (by decide) ?_
  refine W.widen (k := cells + 49) (n := slots + 4900) (law_w (Nat.le_of_ble_eq_true rfl)) (law_w (Nat.le_of_ble_eq_true rfl)) ?_
  exact kk _ _ _ _ _ h0 h (lv_sub hl [0, 1, 2, 3, 4] rfl)
set_option maxRecDepth 100000 in
set_option maxHeartbeats 4000000 in
theorem law_9 {p : Program} {l : Launch} {e : Env} {s : State} {m : MethodId} {below : List Frame} {meth : Method} {c : Code} (hst : l.stackTraces = false) {b L : Nat} {xs : Nat → Int32} (C0 : lw_At p s m meth c b L xs) {D : va_G} {G : Nat → Nat} {b0 : Nat} (hb0 : s.heap.size = b0) (hE0 : hE D G b0 s s.heap) {i : Int32} (hin : ∀ k : Int32, 0 ≤ k.toInt → k.toInt ≤ 7 → vp_in (i + k) L) {τ : Nat → Nat} {f : hM} {K sh qs M : Nat → Nat} {o : Nat} (h0 : LI G τ f K sh qs M o) {H : Heap} {locs : List Loc} {ls : Array Slot} (h : hw D b0 s.heap f H locs) (hl : lv_has ls 7 [(4, .int i), (3, .ref o), (2, .ref (M 0)), (1, .ref (K 0)), (0, .ref b)]) {cells slots : Nat} (hc : cells + 49 ≤ 601024) (hs : slots + 4900 ≤ 7293034) {Q : State → Prop} (kk : ∀ (τ1 : Nat → Nat) (f1 : hM) (H1 : Heap) (locs1 : List Loc) (ls1 : Array Slot), LI G τ1 f1 K sh qs M o → hw D b0 s.heap f1 H1 locs1 → lv_has ls1 7 [(4, .int i), (3, .ref o), (2, .ref (M 0)), (1, .ref (K 0)), (0, .ref b)] → W p l e room_1 s m #[Value.ref b] below meth c H1 locs1 (cells + 49) (slots + 4900) Q (F0 m 2564 ls1 [])) : W p l e room_1 s m #[Value.ref b] below meth c H locs cells slots Q (F0 m 533 ls []) := by
  obtain ⟨hx, hb, hr, hml, hown, hts0, hXs, hbl, hlk, hgv⟩ := id C0
  have hts : ∀ w ∈ wAll, w.before #[Value.ref b] s = true := fun w hw => hts0 w (wAll_tbl w hw)
  have C : hC p s m #[Value.ref b] meth c cL_law 7 RL D G b0 := ⟨hx, hb, hml, hown, hts, hE0, hlk⟩
  have hbA : ¬ hA b0 b := by rw [← hb0]; exact Nat.not_le.mpr hbl
  refine lv_aload_n hx hb dL_law_533 rfl (lv_at hl 3 rfl) ?_
  refine law_arg (v := 1) hx hb hXs hbl hbA h.2.2.1 (hin 1 (by decide) (by decide)) (lv_at hl 0 rfl) (lv_at hl 4 rfl) (by decide) dL_law_534 dL_law_535 dL_law_537 dL_law_538 dL_law_539 ?_
  refine law_arg (v := 2) hx hb hXs hbl hbA h.2.2.1 (hin 2 (by decide) (by decide)) (lv_at hl 0 rfl) (lv_at hl 4 rfl) (by decide) dL_law_540 dL_law_541 dL_law_543 dL_law_544 dL_law_545 ?_
  refine law_arg (v := 3) hx hb hXs hbl hbA h.2.2.1 (hin 3 (by decide) (by decide)) (lv_at hl 0 rfl) (lv_at hl 4 rfl) (by decide) dL_law_546 dL_law_547 dL_law_549 dL_law_550 dL_law_551 ?_
  obtain ⟨fs_, kc_⟩ := h0.cx
  refine k_i (r_V C h hl (As := [.int (xs (Int32.toNatClampNeg (i + 1))), .int (xs (Int32.toNatClampNeg (i + 2))), .int (xs (Int32.toNatClampNeg (i + 3)))]) (rest := []) (lx_9 l D G b0 h0 _ _ _) kc_ (Cn := RX10) (T := TX10) (N := 10) rfl rfl mk_X10_weigh w_640 w_641 w_642 w_643 ⟨Nat.le_of_ble_eq_true rfl, Nat.le_of_ble_eq_true rfl⟩ rfl (Nat.le_of_ble_eq_true rfl) ⟨law_c1 hc (Nat.le_of_ble_eq_true rfl), law_s1 hs (Nat.le_of_ble_eq_true rfl)⟩ rfl dL_law_552) h (fun r552 f H locs hp h => ?_)
  obtain ⟨τ, h0⟩ := hp
  refine lv_pop hx hb dL_law_555 rfl ?_
  refine lv_aload_n hx hb dL_law_556 rfl (lv_at hl 2 rfl) ?_
  refine law_arg (v := 1) hx hb hXs hbl hbA h.2.2.1 (hin 1 (by decide) (by decide)) (lv_at hl 0 rfl) (lv_at hl 4 rfl) (by decide) dL_law_557 dL_law_558 dL_law_560 dL_law_561 dL_law_562 ?_
  refine law_arg (v := 2) hx hb hXs hbl hbA h.2.2.1 (hin 2 (by decide) (by decide)) (lv_at hl 0 rfl) (lv_at hl 4 rfl) (by decide) dL_law_563 dL_law_564 dL_law_566 dL_law_567 dL_law_568 ?_
  refine law_arg (v := 3) hx hb hXs hbl hbA h.2.2.1 (hin 3 (by decide) (by decide)) (lv_at hl 0 rfl) (lv_at hl 4 rfl) (by decide) dL_law_569 dL_law_570 dL_law_572 dL_law_573 dL_law_574 ?_
  obtain ⟨fs_, kc_⟩ := h0.cm
  refine k_i (r_V C h hl (As := [.int (xs (Int32.toNatClampNeg (i + 1))), .int (xs (Int32.toNatClampNeg (i + 2))), .int (xs (Int32.toNatClampNeg (i + 3)))]) (rest := []) (lm_9 l D G b0 _ _ _ h0) kc_ (Cn := RX11) (T := TX11) (N := 32) rfl rfl mk_X11_weigh w_1653 w_1654 w_1655 w_1656 ⟨Nat.le_of_ble_eq_true rfl, Nat.le_of_ble_eq_true rfl⟩ rfl (Nat.le_of_ble_eq_true rfl) ⟨law_c2 hc (Nat.le_of_ble_eq_true rfl), law_s2 hs (Nat.le_of_ble_eq_true rfl)⟩ rfl dL_law_575) h (fun r575 f H locs hp h => ?_)
  obtain ⟨τ, h0⟩ := hp
  refine lv_pop hx hb dL_law_578 rfl ?_
  refine lv_goto (tgt := 2564) hx hb dL_law_579 (by decide) ?_
  refine W.widen (k := cells + 49) (n := slots + 4900) (law_w (Nat.le_of_ble_eq_true rfl)) (law_w (Nat.le_of_ble_eq_true rfl)) ?_
  exact kk _ _ _ _ _ h0 h (lv_sub hl [0, 1, 2, 3, 4] rfl)
set_option maxRecDepth 100000 in
set_option maxHeartbeats 4000000 in
theorem law_10 {p : Program} {l : Launch} {e : Env} {s : State} {m : MethodId} {below : List Frame} {meth : Method} {c : Code} (hst : l.stackTraces = false) {b L : Nat} {xs : Nat → Int32} (C0 : lw_At p s m meth c b L xs) {D : va_G} {G : Nat → Nat} {b0 : Nat} (hb0 : s.heap.size = b0) (hE0 : hE D G b0 s s.heap) {i : Int32} (hin : ∀ k : Int32, 0 ≤ k.toInt → k.toInt ≤ 7 → vp_in (i + k) L) {τ : Nat → Nat} {f : hM} {K sh qs M : Nat → Nat} {o : Nat} (h0 : LI G τ f K sh qs M o) {H : Heap} {locs : List Loc} {ls : Array Slot} (h : hw D b0 s.heap f H locs) (hl : lv_has ls 7 [(4, .int i), (3, .ref o), (2, .ref (M 0)), (1, .ref (K 0)), (0, .ref b)]) {cells slots : Nat} (hc : cells + 49 ≤ 601024) (hs : slots + 4900 ≤ 7293034) {Q : State → Prop} (kk : ∀ (τ1 : Nat → Nat) (f1 : hM) (H1 : Heap) (locs1 : List Loc) (ls1 : Array Slot), LI G τ1 f1 K sh qs M o → hw D b0 s.heap f1 H1 locs1 → lv_has ls1 7 [(4, .int i), (3, .ref o), (2, .ref (M 0)), (1, .ref (K 0)), (0, .ref b)] → W p l e room_1 s m #[Value.ref b] below meth c H1 locs1 (cells + 49) (slots + 4900) Q (F0 m 2564 ls1 [])) : W p l e room_1 s m #[Value.ref b] below meth c H locs cells slots Q (F0 m 582 ls []) := by
  obtain ⟨hx, hb, hr, hml, hown, hts0, hXs, hbl, hlk, hgv⟩ := id C0
  have hts : ∀ w ∈ wAll, w.before #[Value.ref b] s = true := fun w hw => hts0 w (wAll_tbl w hw)
  have C : hC p s m #[Value.ref b] meth c cL_law 7 RL D G b0 := ⟨hx, hb, hml, hown, hts, hE0, hlk⟩
  have hbA : ¬ hA b0 b := by rw [← hb0]; exact Nat.not_le.mpr hbl
  refine lv_aload_n hx hb dL_law_582 rfl (lv_at hl 3 rfl) ?_
  refine law_arg (v := 1) hx hb hXs hbl hbA h.2.2.1 (hin 1 (by decide) (by decide)) (lv_at hl 0 rfl) (lv_at hl 4 rfl) (by decide) dL_law_583 dL_law_584 dL_law_586 dL_law_587 dL_law_588 ?_
  refine law_arg (v := 2) hx hb hXs hbl hbA h.2.2.1 (hin 2 (by decide) (by decide)) (lv_at hl 0 rfl) (lv_at hl 4 rfl) (by decide) dL_law_589 dL_law_590 dL_law_592 dL_law_593 dL_law_594 ?_
  refine law_arg (v := 3) hx hb hXs hbl hbA h.2.2.1 (hin 3 (by decide) (by decide)) (lv_at hl 0 rfl) (lv_at hl 4 rfl) (by decide) dL_law_595 dL_law_596 dL_law_598 dL_law_599 dL_law_600 ?_
  obtain ⟨fs_, kc_⟩ := h0.cx
  refine k_i (r_V C h hl (As := [.int (xs (Int32.toNatClampNeg (i + 1))), .int (xs (Int32.toNatClampNeg (i + 2))), .int (xs (Int32.toNatClampNeg (i + 3)))]) (rest := []) (lx_10 l D G b0 h0 _ _ _) kc_ (Cn := RX10) (T := TX10) (N := 10) rfl rfl mk_X10_start w_645 w_646 w_647 w_648 ⟨Nat.le_of_ble_eq_true rfl, Nat.le_of_ble_eq_true rfl⟩ rfl (Nat.le_of_ble_eq_true rfl) ⟨law_c1 hc (Nat.le_of_ble_eq_true rfl), law_s1 hs (Nat.le_of_ble_eq_true rfl)⟩ rfl dL_law_601) h (fun r601 f H locs hp h => ?_)
  obtain ⟨τ, h0⟩ := hp
  refine lv_pop hx hb dL_law_604 rfl ?_
  refine lv_aload_n hx hb dL_law_605 rfl (lv_at hl 2 rfl) ?_
  refine law_arg (v := 1) hx hb hXs hbl hbA h.2.2.1 (hin 1 (by decide) (by decide)) (lv_at hl 0 rfl) (lv_at hl 4 rfl) (by decide) dL_law_606 dL_law_607 dL_law_609 dL_law_610 dL_law_611 ?_
  refine law_arg (v := 2) hx hb hXs hbl hbA h.2.2.1 (hin 2 (by decide) (by decide)) (lv_at hl 0 rfl) (lv_at hl 4 rfl) (by decide) dL_law_612 dL_law_613 dL_law_615 dL_law_616 dL_law_617 ?_
  refine law_arg (v := 3) hx hb hXs hbl hbA h.2.2.1 (hin 3 (by decide) (by decide)) (lv_at hl 0 rfl) (lv_at hl 4 rfl) (by decide) dL_law_618 dL_law_619 dL_law_621 dL_law_622 dL_law_623 ?_
  obtain ⟨fs_, kc_⟩ := h0.cm
  refine k_i (r_V C h hl (As := [.int (xs (Int32.toNatClampNeg (i + 1))), .int (xs (Int32.toNatClampNeg (i + 2))), .int (xs (Int32.toNatClampNeg (i + 3)))]) (rest := []) (lm_10 l D G b0 _ _ _ h0) kc_ (Cn := RX11) (T := TX11) (N := 32) rfl rfl mk_X11_start w_1662 w_1663 w_1664 w_1665 ⟨Nat.le_of_ble_eq_true rfl, Nat.le_of_ble_eq_true rfl⟩ rfl (Nat.le_of_ble_eq_true rfl) ⟨law_c2 hc (Nat.le_of_ble_eq_true rfl), law_s2 hs (Nat.le_of_ble_eq_true rfl)⟩ rfl dL_law_624) h (fun r624 f H locs hp h => ?_)
  obtain ⟨τ, h0⟩ := hp
  refine lv_pop hx hb dL_law_627 rfl ?_
  refine lv_goto (tgt := 2564) hx hb dL_law_628 (by decide) ?_
  refine W.widen (k := cells + 49) (n := slots + 4900) (law_w (Nat.le_of_ble_eq_true rfl)) (law_w (Nat.le_of_ble_eq_true rfl)) ?_
  exact kk _ _ _ _ _ h0 h (lv_sub hl [0, 1, 2, 3, 4] rfl)
set_option maxRecDepth 100000 in
set_option maxHeartbeats 4000000 in
theorem law_11 {p : Program} {l : Launch} {e : Env} {s : State} {m : MethodId} {below : List Frame} {meth : Method} {c : Code} (hst : l.stackTraces = false) {b L : Nat} {xs : Nat → Int32} (C0 : lw_At p s m meth c b L xs) {D : va_G} {G : Nat → Nat} {b0 : Nat} (hb0 : s.heap.size = b0) (hE0 : hE D G b0 s s.heap) {i : Int32} (hin : ∀ k : Int32, 0 ≤ k.toInt → k.toInt ≤ 7 → vp_in (i + k) L) {τ : Nat → Nat} {f : hM} {K sh qs M : Nat → Nat} {o : Nat} (h0 : LI G τ f K sh qs M o) {H : Heap} {locs : List Loc} {ls : Array Slot} (h : hw D b0 s.heap f H locs) (hl : lv_has ls 7 [(4, .int i), (3, .ref o), (2, .ref (M 0)), (1, .ref (K 0)), (0, .ref b)]) {cells slots : Nat} (hc : cells + 49 ≤ 601024) (hs : slots + 4900 ≤ 7293034) {Q : State → Prop} (kk : ∀ (τ1 : Nat → Nat) (f1 : hM) (H1 : Heap) (locs1 : List Loc) (ls1 : Array Slot), LI G τ1 f1 K sh qs M o → hw D b0 s.heap f1 H1 locs1 → lv_has ls1 7 [(4, .int i), (3, .ref o), (2, .ref (M 0)), (1, .ref (K 0)), (0, .ref b)] → W p l e room_1 s m #[Value.ref b] below meth c H1 locs1 (cells + 49) (slots + 4900) Q (F0 m 2564 ls1 [])) : W p l e room_1 s m #[Value.ref b] below meth c H locs cells slots Q (F0 m 631 ls []) := by
  obtain ⟨hx, hb, hr, hml, hown, hts0, hXs, hbl, hlk, hgv⟩ := id C0
  have hts : ∀ w ∈ wAll, w.before #[Value.ref b] s = true := fun w hw => hts0 w (wAll_tbl w hw)
  have C : hC p s m #[Value.ref b] meth c cL_law 7 RL D G b0 := ⟨hx, hb, hml, hown, hts, hE0, hlk⟩
  have hbA : ¬ hA b0 b := by rw [← hb0]; exact Nat.not_le.mpr hbl
  refine lv_aload_n hx hb dL_law_631 rfl (lv_at hl 3 rfl) ?_
  refine law_arg (v := 1) hx hb hXs hbl hbA h.2.2.1 (hin 1 (by decide) (by decide)) (lv_at hl 0 rfl) (lv_at hl 4 rfl) (by decide) dL_law_632 dL_law_633 dL_law_635 dL_law_636 dL_law_637 ?_
  refine law_arg (v := 2) hx hb hXs hbl hbA h.2.2.1 (hin 2 (by decide) (by decide)) (lv_at hl 0 rfl) (lv_at hl 4 rfl) (by decide) dL_law_638 dL_law_639 dL_law_641 dL_law_642 dL_law_643 ?_
  refine lv_aload_n hx hb dL_law_644 rfl (lv_at hl 1 rfl) ?_
  refine vx_calli (vx_runSX (Ts := wAll) (own := RL) (bytes := cL_rule) (maxL := 5) (ret := some .int) (hh := [(0, 10, 13, 13)]) (As := [.ref (K 0), .int (xs (Int32.toNatClampNeg (i + 1))), .int (xs (Int32.toNatClampNeg (i + 2))), .ref o]) (rest := []) ⟨hx, hb, hml, hown, hts⟩ (c_L_rule l hst D G b0 h0 _ _) (vx_cwSW 4 hts lrule_in rfl rfl rfl (by decide +kernel) ⟨Nat.le_of_ble_eq_true rfl, Nat.le_of_ble_eq_true rfl⟩) ⟨hPre_blind _, hPre_of C h _⟩ rfl rfl hl.1 rfl (lv_room (Nat.le_of_ble_eq_true rfl)) dL_law_645 ⟨law_c1 hc (Nat.le_of_ble_eq_true rfl), law_s1 hs (Nat.le_of_ble_eq_true rfl)⟩) h.2.2.1 (fun q _ h => h) (fun q h => h) (fun q _ h => h) (fun E ce q9 u t H1 locs1 _ _ hpx => hpx.elim) (fun r0 f1 t H1 locs1 ht hvm hp hB hz1 hk1 hS => ?_)
  have h : hw D b0 s.heap f1 H1 locs1 := ⟨by rw [← ht]; exact hB.1, hB.2, hS, h.2.2.2⟩
  obtain ⟨τ, h0⟩ := hp
  refine lv_istore (lv' := [(5, .int r0), (4, .int i), (3, .ref o), (2, .ref (M 0)), (1, .ref (K 0)), (0, .ref b)]) hx hb dL_law_648 hl (by decide) rfl (fun ls hl => ?_)
  refine lv_aload_n hx hb dL_law_650 rfl (lv_at hl 3 rfl) ?_
  refine law_arg (v := 1) hx hb hXs hbl hbA h.2.2.1 (hin 1 (by decide) (by decide)) (lv_at hl 1 rfl) (lv_at hl 5 rfl) (by decide) dL_law_651 dL_law_652 dL_law_654 dL_law_655 dL_law_656 ?_
  refine law_arg (v := 2) hx hb hXs hbl hbA h.2.2.1 (hin 2 (by decide) (by decide)) (lv_at hl 1 rfl) (lv_at hl 5 rfl) (by decide) dL_law_657 dL_law_658 dL_law_660 dL_law_661 dL_law_662 ?_
  obtain ⟨fs_, kc_⟩ := h0.cm
  refine k_i (r_V C h hl (As := [.int (xs (Int32.toNatClampNeg (i + 1))), .int (xs (Int32.toNatClampNeg (i + 2)))]) (rest := []) (lm_11 l D G b0 h0 _ _) kc_ (Cn := RX11) (T := TX11) (N := 32) rfl rfl mk_X11_rule w_1666 w_1667 w_1668 w_1669 ⟨Nat.le_of_ble_eq_true rfl, Nat.le_of_ble_eq_true rfl⟩ rfl (Nat.le_of_ble_eq_true rfl) ⟨law_c2 hc (Nat.le_of_ble_eq_true rfl), law_s2 hs (Nat.le_of_ble_eq_true rfl)⟩ rfl dL_law_663) h (fun r663 f H locs hp h => ?_)
  obtain ⟨τ, h0⟩ := hp
  refine lv_istore (lv' := [(6, .int r663), (5, .int r0), (4, .int i), (3, .ref o), (2, .ref (M 0)), (1, .ref (K 0)), (0, .ref b)]) hx hb dL_law_666 hl (by decide) rfl (fun ls hl => ?_)
  refine lv_goto (tgt := 2564) hx hb dL_law_668 (by decide) ?_
  refine W.widen (k := cells + 49) (n := slots + 4900) (law_w (Nat.le_of_ble_eq_true rfl)) (law_w (Nat.le_of_ble_eq_true rfl)) ?_
  exact kk _ _ _ _ _ h0 h (lv_sub hl [2, 3, 4, 5, 6] rfl)
set_option maxRecDepth 100000 in
set_option maxHeartbeats 4000000 in
theorem law_12 {p : Program} {l : Launch} {e : Env} {s : State} {m : MethodId} {below : List Frame} {meth : Method} {c : Code} (hst : l.stackTraces = false) {b L : Nat} {xs : Nat → Int32} (C0 : lw_At p s m meth c b L xs) {D : va_G} {G : Nat → Nat} {b0 : Nat} (hb0 : s.heap.size = b0) (hE0 : hE D G b0 s s.heap) {i : Int32} (hin : ∀ k : Int32, 0 ≤ k.toInt → k.toInt ≤ 7 → vp_in (i + k) L) {τ : Nat → Nat} {f : hM} {K sh qs M : Nat → Nat} {o : Nat} (h0 : LI G τ f K sh qs M o) {H : Heap} {locs : List Loc} {ls : Array Slot} (h : hw D b0 s.heap f H locs) (hl : lv_has ls 7 [(4, .int i), (3, .ref o), (2, .ref (M 0)), (1, .ref (K 0)), (0, .ref b)]) {cells slots : Nat} (hc : cells + 49 ≤ 601024) (hs : slots + 4900 ≤ 7293034) {Q : State → Prop} (kk : ∀ (τ1 : Nat → Nat) (f1 : hM) (H1 : Heap) (locs1 : List Loc) (ls1 : Array Slot), LI G τ1 f1 K sh qs M o → hw D b0 s.heap f1 H1 locs1 → lv_has ls1 7 [(4, .int i), (3, .ref o), (2, .ref (M 0)), (1, .ref (K 0)), (0, .ref b)] → W p l e room_1 s m #[Value.ref b] below meth c H1 locs1 (cells + 49) (slots + 4900) Q (F0 m 2564 ls1 [])) : W p l e room_1 s m #[Value.ref b] below meth c H locs cells slots Q (F0 m 671 ls []) := by
  obtain ⟨hx, hb, hr, hml, hown, hts0, hXs, hbl, hlk, hgv⟩ := id C0
  have hts : ∀ w ∈ wAll, w.before #[Value.ref b] s = true := fun w hw => hts0 w (wAll_tbl w hw)
  have C : hC p s m #[Value.ref b] meth c cL_law 7 RL D G b0 := ⟨hx, hb, hml, hown, hts, hE0, hlk⟩
  have hbA : ¬ hA b0 b := by rw [← hb0]; exact Nat.not_le.mpr hbl
  refine lv_aload_n hx hb dL_law_671 rfl (lv_at hl 3 rfl) ?_
  refine law_arg (v := 1) hx hb hXs hbl hbA h.2.2.1 (hin 1 (by decide) (by decide)) (lv_at hl 0 rfl) (lv_at hl 4 rfl) (by decide) dL_law_672 dL_law_673 dL_law_675 dL_law_676 dL_law_677 ?_
  refine law_arg (v := 2) hx hb hXs hbl hbA h.2.2.1 (hin 2 (by decide) (by decide)) (lv_at hl 0 rfl) (lv_at hl 4 rfl) (by decide) dL_law_678 dL_law_679 dL_law_681 dL_law_682 dL_law_683 ?_
  refine law_arg (v := 3) hx hb hXs hbl hbA h.2.2.1 (hin 3 (by decide) (by decide)) (lv_at hl 0 rfl) (lv_at hl 4 rfl) (by decide) dL_law_684 dL_law_685 dL_law_687 dL_law_688 dL_law_689 ?_
  refine law_arg (v := 4) hx hb hXs hbl hbA h.2.2.1 (hin 4 (by decide) (by decide)) (lv_at hl 0 rfl) (lv_at hl 4 rfl) (by decide) dL_law_690 dL_law_691 dL_law_693 dL_law_694 dL_law_695 ?_
  refine law_arg (v := 5) hx hb hXs hbl hbA h.2.2.1 (hin 5 (by decide) (by decide)) (lv_at hl 0 rfl) (lv_at hl 4 rfl) (by decide) dL_law_696 dL_law_697 dL_law_699 dL_law_700 dL_law_701 ?_
  obtain ⟨fs_, kc_⟩ := h0.cx
  refine k_i (r_V C h hl (As := [.int (xs (Int32.toNatClampNeg (i + 1))), .int (xs (Int32.toNatClampNeg (i + 2))), .int (xs (Int32.toNatClampNeg (i + 3))), .int (xs (Int32.toNatClampNeg (i + 4))), .int (xs (Int32.toNatClampNeg (i + 5)))]) (rest := []) (lx_12 l D G b0 h0 _ _ _ _ _) kc_ (Cn := RX10) (T := TX10) (N := 10) rfl rfl mk_X10_at w_649 w_650 w_651 w_652 ⟨Nat.le_of_ble_eq_true rfl, Nat.le_of_ble_eq_true rfl⟩ rfl (Nat.le_of_ble_eq_true rfl) ⟨law_c1 hc (Nat.le_of_ble_eq_true rfl), law_s1 hs (Nat.le_of_ble_eq_true rfl)⟩ rfl dL_law_702) h (fun r702 f H locs hp h => ?_)
  obtain ⟨τ, h0⟩ := hp
  refine lv_aload_n hx hb dL_law_705 rfl (lv_at hl 2 rfl) ?_
  refine law_arg (v := 1) hx hb hXs hbl hbA h.2.2.1 (hin 1 (by decide) (by decide)) (lv_at hl 0 rfl) (lv_at hl 4 rfl) (by decide) dL_law_706 dL_law_707 dL_law_709 dL_law_710 dL_law_711 ?_
  refine law_arg (v := 2) hx hb hXs hbl hbA h.2.2.1 (hin 2 (by decide) (by decide)) (lv_at hl 0 rfl) (lv_at hl 4 rfl) (by decide) dL_law_712 dL_law_713 dL_law_715 dL_law_716 dL_law_717 ?_
  refine law_arg (v := 3) hx hb hXs hbl hbA h.2.2.1 (hin 3 (by decide) (by decide)) (lv_at hl 0 rfl) (lv_at hl 4 rfl) (by decide) dL_law_718 dL_law_719 dL_law_721 dL_law_722 dL_law_723 ?_
  refine law_arg (v := 4) hx hb hXs hbl hbA h.2.2.1 (hin 4 (by decide) (by decide)) (lv_at hl 0 rfl) (lv_at hl 4 rfl) (by decide) dL_law_724 dL_law_725 dL_law_727 dL_law_728 dL_law_729 ?_
  refine law_arg (v := 5) hx hb hXs hbl hbA h.2.2.1 (hin 5 (by decide) (by decide)) (lv_at hl 0 rfl) (lv_at hl 4 rfl) (by decide) dL_law_730 dL_law_731 dL_law_733 dL_law_734 dL_law_735 ?_
  obtain ⟨fs_, kc_⟩ := h0.cm
  refine k_i (r_V C h hl (As := [.int (xs (Int32.toNatClampNeg (i + 1))), .int (xs (Int32.toNatClampNeg (i + 2))), .int (xs (Int32.toNatClampNeg (i + 3))), .int (xs (Int32.toNatClampNeg (i + 4))), .int (xs (Int32.toNatClampNeg (i + 5)))]) (rest := [.int r702]) (lm_12 l D G b0 _ _ _ _ _ _ h0) kc_ (Cn := RX11) (T := TX11) (N := 32) rfl rfl mk_X11_at w_1685 w_1686 w_1687 w_1688 ⟨Nat.le_of_ble_eq_true rfl, Nat.le_of_ble_eq_true rfl⟩ rfl (Nat.le_of_ble_eq_true rfl) ⟨law_c2 hc (Nat.le_of_ble_eq_true rfl), law_s2 hs (Nat.le_of_ble_eq_true rfl)⟩ rfl dL_law_736) h (fun r736 f H locs hp h => ?_)
  obtain ⟨er, τ, h0⟩ := hp
  refine lv_icmp_eq (tgt := 2564) hx hb dL_law_739 (by decide) (fun c_ => ?_) (fun c_ => ?_)
  · refine W.widen (k := cells + 49) (n := slots + 4900) (law_w (Nat.le_of_ble_eq_true rfl)) (law_w (Nat.le_of_ble_eq_true rfl)) ?_
    exact kk _ _ _ _ _ h0 h (lv_sub hl [0, 1, 2, 3, 4] rfl)
  · exact absurd er c_
set_option maxRecDepth 100000 in
set_option maxHeartbeats 4000000 in
theorem law_13 {p : Program} {l : Launch} {e : Env} {s : State} {m : MethodId} {below : List Frame} {meth : Method} {c : Code} (hst : l.stackTraces = false) {b L : Nat} {xs : Nat → Int32} (C0 : lw_At p s m meth c b L xs) {D : va_G} {G : Nat → Nat} {b0 : Nat} (hb0 : s.heap.size = b0) (hE0 : hE D G b0 s s.heap) {i : Int32} (hin : ∀ k : Int32, 0 ≤ k.toInt → k.toInt ≤ 7 → vp_in (i + k) L) {τ : Nat → Nat} {f : hM} {K sh qs M : Nat → Nat} {o : Nat} (h0 : LI G τ f K sh qs M o) {H : Heap} {locs : List Loc} {ls : Array Slot} (h : hw D b0 s.heap f H locs) (hl : lv_has ls 7 [(4, .int i), (3, .ref o), (2, .ref (M 0)), (1, .ref (K 0)), (0, .ref b)]) {cells slots : Nat} (hc : cells + 49 ≤ 601024) (hs : slots + 4900 ≤ 7293034) {Q : State → Prop} (kk : ∀ (τ1 : Nat → Nat) (f1 : hM) (H1 : Heap) (locs1 : List Loc) (ls1 : Array Slot), LI G τ1 f1 K sh qs M o → hw D b0 s.heap f1 H1 locs1 → lv_has ls1 7 [(4, .int i), (3, .ref o), (2, .ref (M 0)), (1, .ref (K 0)), (0, .ref b)] → W p l e room_1 s m #[Value.ref b] below meth c H1 locs1 (cells + 49) (slots + 4900) Q (F0 m 2564 ls1 [])) : W p l e room_1 s m #[Value.ref b] below meth c H locs cells slots Q (F0 m 744 ls []) := by
  obtain ⟨hx, hb, hr, hml, hown, hts0, hXs, hbl, hlk, hgv⟩ := id C0
  have hts : ∀ w ∈ wAll, w.before #[Value.ref b] s = true := fun w hw => hts0 w (wAll_tbl w hw)
  have C : hC p s m #[Value.ref b] meth c cL_law 7 RL D G b0 := ⟨hx, hb, hml, hown, hts, hE0, hlk⟩
  have hbA : ¬ hA b0 b := by rw [← hb0]; exact Nat.not_le.mpr hbl
  refine lv_aload_n hx hb dL_law_744 rfl (lv_at hl 3 rfl) ?_
  refine law_arg (v := 1) hx hb hXs hbl hbA h.2.2.1 (hin 1 (by decide) (by decide)) (lv_at hl 0 rfl) (lv_at hl 4 rfl) (by decide) dL_law_745 dL_law_746 dL_law_748 dL_law_749 dL_law_750 ?_
  refine law_arg (v := 2) hx hb hXs hbl hbA h.2.2.1 (hin 2 (by decide) (by decide)) (lv_at hl 0 rfl) (lv_at hl 4 rfl) (by decide) dL_law_751 dL_law_752 dL_law_754 dL_law_755 dL_law_756 ?_
  refine law_arg (v := 3) hx hb hXs hbl hbA h.2.2.1 (hin 3 (by decide) (by decide)) (lv_at hl 0 rfl) (lv_at hl 4 rfl) (by decide) dL_law_757 dL_law_758 dL_law_760 dL_law_761 dL_law_762 ?_
  obtain ⟨fs_, kc_⟩ := h0.cx
  refine k_i (r_V C h hl (As := [.int (xs (Int32.toNatClampNeg (i + 1))), .int (xs (Int32.toNatClampNeg (i + 2))), .int (xs (Int32.toNatClampNeg (i + 3)))]) (rest := []) (lx_13 l D G b0 h0 _ _ _) kc_ (Cn := RX10) (T := TX10) (N := 10) rfl rfl mk_X10_series w_717 w_718 w_719 w_720 ⟨Nat.le_of_ble_eq_true rfl, Nat.le_of_ble_eq_true rfl⟩ rfl (Nat.le_of_ble_eq_true rfl) ⟨law_c1 hc (Nat.le_of_ble_eq_true rfl), law_s1 hs (Nat.le_of_ble_eq_true rfl)⟩ rfl dL_law_763) h (fun r763 f H locs hp h => ?_)
  obtain ⟨τ, h0⟩ := hp
  refine lv_pop hx hb dL_law_766 rfl ?_
  refine lv_aload_n hx hb dL_law_767 rfl (lv_at hl 2 rfl) ?_
  refine law_arg (v := 1) hx hb hXs hbl hbA h.2.2.1 (hin 1 (by decide) (by decide)) (lv_at hl 0 rfl) (lv_at hl 4 rfl) (by decide) dL_law_768 dL_law_769 dL_law_771 dL_law_772 dL_law_773 ?_
  refine law_arg (v := 2) hx hb hXs hbl hbA h.2.2.1 (hin 2 (by decide) (by decide)) (lv_at hl 0 rfl) (lv_at hl 4 rfl) (by decide) dL_law_774 dL_law_775 dL_law_777 dL_law_778 dL_law_779 ?_
  refine law_arg (v := 3) hx hb hXs hbl hbA h.2.2.1 (hin 3 (by decide) (by decide)) (lv_at hl 0 rfl) (lv_at hl 4 rfl) (by decide) dL_law_780 dL_law_781 dL_law_783 dL_law_784 dL_law_785 ?_
  obtain ⟨fs_, kc_⟩ := h0.cm
  refine k_i (r_V C h hl (As := [.int (xs (Int32.toNatClampNeg (i + 1))), .int (xs (Int32.toNatClampNeg (i + 2))), .int (xs (Int32.toNatClampNeg (i + 3)))]) (rest := []) (lm_13 l D G b0 h0 _ _ _) kc_ (Cn := RX11) (T := TX11) (N := 32) rfl rfl mk_X11_series w_1726 w_1727 w_1728 w_1729 ⟨Nat.le_of_ble_eq_true rfl, Nat.le_of_ble_eq_true rfl⟩ rfl (Nat.le_of_ble_eq_true rfl) ⟨law_c2 hc (Nat.le_of_ble_eq_true rfl), law_s2 hs (Nat.le_of_ble_eq_true rfl)⟩ rfl dL_law_786) h (fun r786 f H locs hp h => ?_)
  obtain ⟨τ, h0⟩ := hp
  refine lv_pop hx hb dL_law_789 rfl ?_
  refine lv_goto (tgt := 2564) hx hb dL_law_790 (by decide) ?_
  refine W.widen (k := cells + 49) (n := slots + 4900) (law_w (Nat.le_of_ble_eq_true rfl)) (law_w (Nat.le_of_ble_eq_true rfl)) ?_
  exact kk _ _ _ _ _ h0 h (lv_sub hl [0, 1, 2, 3, 4] rfl)
set_option maxRecDepth 100000 in
set_option maxHeartbeats 4000000 in
theorem law_14 {p : Program} {l : Launch} {e : Env} {s : State} {m : MethodId} {below : List Frame} {meth : Method} {c : Code} (hst : l.stackTraces = false) {b L : Nat} {xs : Nat → Int32} (C0 : lw_At p s m meth c b L xs) {D : va_G} {G : Nat → Nat} {b0 : Nat} (hb0 : s.heap.size = b0) (hE0 : hE D G b0 s s.heap) {i : Int32} (hin : ∀ k : Int32, 0 ≤ k.toInt → k.toInt ≤ 7 → vp_in (i + k) L) {τ : Nat → Nat} {f : hM} {K sh qs M : Nat → Nat} {o : Nat} (h0 : LI G τ f K sh qs M o) {H : Heap} {locs : List Loc} {ls : Array Slot} (h : hw D b0 s.heap f H locs) (hl : lv_has ls 7 [(4, .int i), (3, .ref o), (2, .ref (M 0)), (1, .ref (K 0)), (0, .ref b)]) {cells slots : Nat} (hc : cells + 49 ≤ 601024) (hs : slots + 4900 ≤ 7293034) {Q : State → Prop} (kk : ∀ (τ1 : Nat → Nat) (f1 : hM) (H1 : Heap) (locs1 : List Loc) (ls1 : Array Slot), LI G τ1 f1 K sh qs M o → hw D b0 s.heap f1 H1 locs1 → lv_has ls1 7 [(4, .int i), (3, .ref o), (2, .ref (M 0)), (1, .ref (K 0)), (0, .ref b)] → W p l e room_1 s m #[Value.ref b] below meth c H1 locs1 (cells + 49) (slots + 4900) Q (F0 m 2564 ls1 [])) : W p l e room_1 s m #[Value.ref b] below meth c H locs cells slots Q (F0 m 793 ls []) := by
  obtain ⟨hx, hb, hr, hml, hown, hts0, hXs, hbl, hlk, hgv⟩ := id C0
  have hts : ∀ w ∈ wAll, w.before #[Value.ref b] s = true := fun w hw => hts0 w (wAll_tbl w hw)
  have C : hC p s m #[Value.ref b] meth c cL_law 7 RL D G b0 := ⟨hx, hb, hml, hown, hts, hE0, hlk⟩
  have hbA : ¬ hA b0 b := by rw [← hb0]; exact Nat.not_le.mpr hbl
  refine lv_aload_n hx hb dL_law_793 rfl (lv_at hl 3 rfl) ?_
  refine law_arg (v := 1) hx hb hXs hbl hbA h.2.2.1 (hin 1 (by decide) (by decide)) (lv_at hl 0 rfl) (lv_at hl 4 rfl) (by decide) dL_law_794 dL_law_795 dL_law_797 dL_law_798 dL_law_799 ?_
  refine law_arg (v := 2) hx hb hXs hbl hbA h.2.2.1 (hin 2 (by decide) (by decide)) (lv_at hl 0 rfl) (lv_at hl 4 rfl) (by decide) dL_law_800 dL_law_801 dL_law_803 dL_law_804 dL_law_805 ?_
  refine law_arg (v := 3) hx hb hXs hbl hbA h.2.2.1 (hin 3 (by decide) (by decide)) (lv_at hl 0 rfl) (lv_at hl 4 rfl) (by decide) dL_law_806 dL_law_807 dL_law_809 dL_law_810 dL_law_811 ?_
  refine law_arg (v := 4) hx hb hXs hbl hbA h.2.2.1 (hin 4 (by decide) (by decide)) (lv_at hl 0 rfl) (lv_at hl 4 rfl) (by decide) dL_law_812 dL_law_813 dL_law_815 dL_law_816 dL_law_817 ?_
  obtain ⟨fs_, kc_⟩ := h0.cx
  refine k_l (r_V C h hl (As := [.int (xs (Int32.toNatClampNeg (i + 1))), .int (xs (Int32.toNatClampNeg (i + 2))), .int (xs (Int32.toNatClampNeg (i + 3))), .int (xs (Int32.toNatClampNeg (i + 4)))]) (rest := []) (lx_14 l D G b0 h0 _ _ _ _) kc_ (Cn := RX10) (T := TX10) (N := 10) rfl rfl mk_X10_exact w_749 w_750 w_751 w_752 ⟨Nat.le_of_ble_eq_true rfl, Nat.le_of_ble_eq_true rfl⟩ rfl (Nat.le_of_ble_eq_true rfl) ⟨law_c1 hc (Nat.le_of_ble_eq_true rfl), law_s1 hs (Nat.le_of_ble_eq_true rfl)⟩ rfl dL_law_818) h (fun r818 f H locs hp h => ?_)
  obtain ⟨τ, h0⟩ := hp
  refine lv_pop2_2 hx hb dL_law_821 rfl ?_
  refine lv_aload_n hx hb dL_law_822 rfl (lv_at hl 2 rfl) ?_
  refine law_arg (v := 1) hx hb hXs hbl hbA h.2.2.1 (hin 1 (by decide) (by decide)) (lv_at hl 0 rfl) (lv_at hl 4 rfl) (by decide) dL_law_823 dL_law_824 dL_law_826 dL_law_827 dL_law_828 ?_
  refine law_arg (v := 2) hx hb hXs hbl hbA h.2.2.1 (hin 2 (by decide) (by decide)) (lv_at hl 0 rfl) (lv_at hl 4 rfl) (by decide) dL_law_829 dL_law_830 dL_law_832 dL_law_833 dL_law_834 ?_
  refine law_arg (v := 3) hx hb hXs hbl hbA h.2.2.1 (hin 3 (by decide) (by decide)) (lv_at hl 0 rfl) (lv_at hl 4 rfl) (by decide) dL_law_835 dL_law_836 dL_law_838 dL_law_839 dL_law_840 ?_
  refine law_arg (v := 4) hx hb hXs hbl hbA h.2.2.1 (hin 4 (by decide) (by decide)) (lv_at hl 0 rfl) (lv_at hl 4 rfl) (by decide) dL_law_841 dL_law_842 dL_law_844 dL_law_845 dL_law_846 ?_
  obtain ⟨fs_, kc_⟩ := h0.cm
  refine k_l (r_V C h hl (As := [.int (xs (Int32.toNatClampNeg (i + 1))), .int (xs (Int32.toNatClampNeg (i + 2))), .int (xs (Int32.toNatClampNeg (i + 3))), .int (xs (Int32.toNatClampNeg (i + 4)))]) (rest := []) (lm_14 l D G b0 h0 _ _ _ _) kc_ (Cn := RX11) (T := TX11) (N := 32) rfl rfl mk_X11_exact w_1739 w_1740 w_1741 w_1742 ⟨Nat.le_of_ble_eq_true rfl, Nat.le_of_ble_eq_true rfl⟩ rfl (Nat.le_of_ble_eq_true rfl) ⟨law_c2 hc (Nat.le_of_ble_eq_true rfl), law_s2 hs (Nat.le_of_ble_eq_true rfl)⟩ rfl dL_law_847) h (fun r847 f H locs hp h => ?_)
  obtain ⟨τ, h0⟩ := hp
  refine lv_pop2_2 hx hb dL_law_850 rfl ?_
  refine lv_goto (tgt := 2564) hx hb dL_law_851 (by decide) ?_
  refine W.widen (k := cells + 49) (n := slots + 4900) (law_w (Nat.le_of_ble_eq_true rfl)) (law_w (Nat.le_of_ble_eq_true rfl)) ?_
  exact kk _ _ _ _ _ h0 h (lv_sub hl [0, 1, 2, 3, 4] rfl)
set_option maxRecDepth 100000 in
set_option maxHeartbeats 4000000 in
theorem law_15 {p : Program} {l : Launch} {e : Env} {s : State} {m : MethodId} {below : List Frame} {meth : Method} {c : Code} (hst : l.stackTraces = false) {b L : Nat} {xs : Nat → Int32} (C0 : lw_At p s m meth c b L xs) {D : va_G} {G : Nat → Nat} {b0 : Nat} (hb0 : s.heap.size = b0) (hE0 : hE D G b0 s s.heap) {i : Int32} (hin : ∀ k : Int32, 0 ≤ k.toInt → k.toInt ≤ 7 → vp_in (i + k) L) {τ : Nat → Nat} {f : hM} {K sh qs M : Nat → Nat} {o : Nat} (h0 : LI G τ f K sh qs M o) {H : Heap} {locs : List Loc} {ls : Array Slot} (h : hw D b0 s.heap f H locs) (hl : lv_has ls 7 [(4, .int i), (3, .ref o), (2, .ref (M 0)), (1, .ref (K 0)), (0, .ref b)]) {cells slots : Nat} (hc : cells + 49 ≤ 601024) (hs : slots + 4900 ≤ 7293034) {Q : State → Prop} (kk : ∀ (τ1 : Nat → Nat) (f1 : hM) (H1 : Heap) (locs1 : List Loc) (ls1 : Array Slot), LI G τ1 f1 K sh qs M o → hw D b0 s.heap f1 H1 locs1 → lv_has ls1 7 [(4, .int i), (3, .ref o), (2, .ref (M 0)), (1, .ref (K 0)), (0, .ref b)] → W p l e room_1 s m #[Value.ref b] below meth c H1 locs1 (cells + 49) (slots + 4900) Q (F0 m 2564 ls1 [])) : W p l e room_1 s m #[Value.ref b] below meth c H locs cells slots Q (F0 m 854 ls []) := by
  obtain ⟨hx, hb, hr, hml, hown, hts0, hXs, hbl, hlk, hgv⟩ := id C0
  have hts : ∀ w ∈ wAll, w.before #[Value.ref b] s = true := fun w hw => hts0 w (wAll_tbl w hw)
  have C : hC p s m #[Value.ref b] meth c cL_law 7 RL D G b0 := ⟨hx, hb, hml, hown, hts, hE0, hlk⟩
  have hbA : ¬ hA b0 b := by rw [← hb0]; exact Nat.not_le.mpr hbl
  refine lv_aload_n hx hb dL_law_854 rfl (lv_at hl 3 rfl) ?_
  refine law_arg (v := 1) hx hb hXs hbl hbA h.2.2.1 (hin 1 (by decide) (by decide)) (lv_at hl 0 rfl) (lv_at hl 4 rfl) (by decide) dL_law_855 dL_law_856 dL_law_858 dL_law_859 dL_law_860 ?_
  refine law_arg (v := 2) hx hb hXs hbl hbA h.2.2.1 (hin 2 (by decide) (by decide)) (lv_at hl 0 rfl) (lv_at hl 4 rfl) (by decide) dL_law_861 dL_law_862 dL_law_864 dL_law_865 dL_law_866 ?_
  refine law_arg (v := 3) hx hb hXs hbl hbA h.2.2.1 (hin 3 (by decide) (by decide)) (lv_at hl 0 rfl) (lv_at hl 4 rfl) (by decide) dL_law_867 dL_law_868 dL_law_870 dL_law_871 dL_law_872 ?_
  refine law_arg (v := 4) hx hb hXs hbl hbA h.2.2.1 (hin 4 (by decide) (by decide)) (lv_at hl 0 rfl) (lv_at hl 4 rfl) (by decide) dL_law_873 dL_law_874 dL_law_876 dL_law_877 dL_law_878 ?_
  obtain ⟨fs_, kc_⟩ := h0.cx
  refine k_i (r_V C h hl (As := [.int (xs (Int32.toNatClampNeg (i + 1))), .int (xs (Int32.toNatClampNeg (i + 2))), .int (xs (Int32.toNatClampNeg (i + 3))), .int (xs (Int32.toNatClampNeg (i + 4)))]) (rest := []) (lx_15 l D G b0 h0 _ _ _ _) kc_ (Cn := RX10) (T := TX10) (N := 10) rfl rfl mk_X10_bridge w_758 w_759 w_760 w_761 ⟨Nat.le_of_ble_eq_true rfl, Nat.le_of_ble_eq_true rfl⟩ rfl (Nat.le_of_ble_eq_true rfl) ⟨law_c1 hc (Nat.le_of_ble_eq_true rfl), law_s1 hs (Nat.le_of_ble_eq_true rfl)⟩ rfl dL_law_879) h (fun r879 f H locs hp h => ?_)
  obtain ⟨τ, h0⟩ := hp
  refine lv_pop hx hb dL_law_882 rfl ?_
  refine lv_aload_n hx hb dL_law_883 rfl (lv_at hl 2 rfl) ?_
  refine law_arg (v := 1) hx hb hXs hbl hbA h.2.2.1 (hin 1 (by decide) (by decide)) (lv_at hl 0 rfl) (lv_at hl 4 rfl) (by decide) dL_law_884 dL_law_885 dL_law_887 dL_law_888 dL_law_889 ?_
  refine law_arg (v := 2) hx hb hXs hbl hbA h.2.2.1 (hin 2 (by decide) (by decide)) (lv_at hl 0 rfl) (lv_at hl 4 rfl) (by decide) dL_law_890 dL_law_891 dL_law_893 dL_law_894 dL_law_895 ?_
  refine law_arg (v := 3) hx hb hXs hbl hbA h.2.2.1 (hin 3 (by decide) (by decide)) (lv_at hl 0 rfl) (lv_at hl 4 rfl) (by decide) dL_law_896 dL_law_897 dL_law_899 dL_law_900 dL_law_901 ?_
  refine law_arg (v := 4) hx hb hXs hbl hbA h.2.2.1 (hin 4 (by decide) (by decide)) (lv_at hl 0 rfl) (lv_at hl 4 rfl) (by decide) dL_law_902 dL_law_903 dL_law_905 dL_law_906 dL_law_907 ?_
  obtain ⟨fs_, kc_⟩ := h0.cm
  refine k_i (r_V C h hl (As := [.int (xs (Int32.toNatClampNeg (i + 1))), .int (xs (Int32.toNatClampNeg (i + 2))), .int (xs (Int32.toNatClampNeg (i + 3))), .int (xs (Int32.toNatClampNeg (i + 4)))]) (rest := []) (lm_15 l D G b0 h0 _ _ _ _) kc_ (Cn := RX11) (T := TX11) (N := 32) rfl rfl mk_X11_bridge w_1771 w_1772 w_1773 w_1774 ⟨Nat.le_of_ble_eq_true rfl, Nat.le_of_ble_eq_true rfl⟩ rfl (Nat.le_of_ble_eq_true rfl) ⟨law_c2 hc (Nat.le_of_ble_eq_true rfl), law_s2 hs (Nat.le_of_ble_eq_true rfl)⟩ rfl dL_law_908) h (fun r908 f H locs hp h => ?_)
  obtain ⟨τ, h0⟩ := hp
  refine lv_pop hx hb dL_law_911 rfl ?_
  refine lv_goto (tgt := 2564) hx hb dL_law_912 (by decide) ?_
  refine W.widen (k := cells + 49) (n := slots + 4900) (law_w (Nat.le_of_ble_eq_true rfl)) (law_w (Nat.le_of_ble_eq_true rfl)) ?_
  exact kk _ _ _ _ _ h0 h (lv_sub hl [0, 1, 2, 3, 4] rfl)
set_option maxRecDepth 100000 in
set_option maxHeartbeats 4000000 in
theorem law_16 {p : Program} {l : Launch} {e : Env} {s : State} {m : MethodId} {below : List Frame} {meth : Method} {c : Code} (hst : l.stackTraces = false) {b L : Nat} {xs : Nat → Int32} (C0 : lw_At p s m meth c b L xs) {D : va_G} {G : Nat → Nat} {b0 : Nat} (hb0 : s.heap.size = b0) (hE0 : hE D G b0 s s.heap) {i : Int32} (hin : ∀ k : Int32, 0 ≤ k.toInt → k.toInt ≤ 7 → vp_in (i + k) L) {τ : Nat → Nat} {f : hM} {K sh qs M : Nat → Nat} {o : Nat} (h0 : LI G τ f K sh qs M o) {H : Heap} {locs : List Loc} {ls : Array Slot} (h : hw D b0 s.heap f H locs) (hl : lv_has ls 7 [(4, .int i), (3, .ref o), (2, .ref (M 0)), (1, .ref (K 0)), (0, .ref b)]) {cells slots : Nat} (hc : cells + 49 ≤ 601024) (hs : slots + 4900 ≤ 7293034) {Q : State → Prop} (kk : ∀ (τ1 : Nat → Nat) (f1 : hM) (H1 : Heap) (locs1 : List Loc) (ls1 : Array Slot), LI G τ1 f1 K sh qs M o → hw D b0 s.heap f1 H1 locs1 → lv_has ls1 7 [(4, .int i), (3, .ref o), (2, .ref (M 0)), (1, .ref (K 0)), (0, .ref b)] → W p l e room_1 s m #[Value.ref b] below meth c H1 locs1 (cells + 49) (slots + 4900) Q (F0 m 2564 ls1 [])) : W p l e room_1 s m #[Value.ref b] below meth c H locs cells slots Q (F0 m 915 ls []) := by
  obtain ⟨hx, hb, hr, hml, hown, hts0, hXs, hbl, hlk, hgv⟩ := id C0
  have hts : ∀ w ∈ wAll, w.before #[Value.ref b] s = true := fun w hw => hts0 w (wAll_tbl w hw)
  have C : hC p s m #[Value.ref b] meth c cL_law 7 RL D G b0 := ⟨hx, hb, hml, hown, hts, hE0, hlk⟩
  have hbA : ¬ hA b0 b := by rw [← hb0]; exact Nat.not_le.mpr hbl
  refine lv_aload_n hx hb dL_law_915 rfl (lv_at hl 3 rfl) ?_
  refine law_arg (v := 1) hx hb hXs hbl hbA h.2.2.1 (hin 1 (by decide) (by decide)) (lv_at hl 0 rfl) (lv_at hl 4 rfl) (by decide) dL_law_916 dL_law_917 dL_law_919 dL_law_920 dL_law_921 ?_
  refine law_arg (v := 2) hx hb hXs hbl hbA h.2.2.1 (hin 2 (by decide) (by decide)) (lv_at hl 0 rfl) (lv_at hl 4 rfl) (by decide) dL_law_922 dL_law_923 dL_law_925 dL_law_926 dL_law_927 ?_
  refine law_arg (v := 3) hx hb hXs hbl hbA h.2.2.1 (hin 3 (by decide) (by decide)) (lv_at hl 0 rfl) (lv_at hl 4 rfl) (by decide) dL_law_928 dL_law_929 dL_law_931 dL_law_932 dL_law_933 ?_
  refine law_arg (v := 4) hx hb hXs hbl hbA h.2.2.1 (hin 4 (by decide) (by decide)) (lv_at hl 0 rfl) (lv_at hl 4 rfl) (by decide) dL_law_934 dL_law_935 dL_law_937 dL_law_938 dL_law_939 ?_
  obtain ⟨fs_, kc_⟩ := h0.cx
  refine k_i (r_V C h hl (As := [.int (xs (Int32.toNatClampNeg (i + 1))), .int (xs (Int32.toNatClampNeg (i + 2))), .int (xs (Int32.toNatClampNeg (i + 3))), .int (xs (Int32.toNatClampNeg (i + 4)))]) (rest := []) (lx_16 l D G b0 h0 _ _ _ _) kc_ (Cn := RX10) (T := TX10) (N := 10) rfl rfl mk_X10_reflected w_768 w_769 w_770 w_771 ⟨Nat.le_of_ble_eq_true rfl, Nat.le_of_ble_eq_true rfl⟩ rfl (Nat.le_of_ble_eq_true rfl) ⟨law_c1 hc (Nat.le_of_ble_eq_true rfl), law_s1 hs (Nat.le_of_ble_eq_true rfl)⟩ rfl dL_law_940) h (fun r940 f H locs hp h => ?_)
  obtain ⟨τ, h0⟩ := hp
  refine lv_pop hx hb dL_law_943 rfl ?_
  refine lv_aload_n hx hb dL_law_944 rfl (lv_at hl 2 rfl) ?_
  refine law_arg (v := 1) hx hb hXs hbl hbA h.2.2.1 (hin 1 (by decide) (by decide)) (lv_at hl 0 rfl) (lv_at hl 4 rfl) (by decide) dL_law_945 dL_law_946 dL_law_948 dL_law_949 dL_law_950 ?_
  refine law_arg (v := 2) hx hb hXs hbl hbA h.2.2.1 (hin 2 (by decide) (by decide)) (lv_at hl 0 rfl) (lv_at hl 4 rfl) (by decide) dL_law_951 dL_law_952 dL_law_954 dL_law_955 dL_law_956 ?_
  refine law_arg (v := 3) hx hb hXs hbl hbA h.2.2.1 (hin 3 (by decide) (by decide)) (lv_at hl 0 rfl) (lv_at hl 4 rfl) (by decide) dL_law_957 dL_law_958 dL_law_960 dL_law_961 dL_law_962 ?_
  refine law_arg (v := 4) hx hb hXs hbl hbA h.2.2.1 (hin 4 (by decide) (by decide)) (lv_at hl 0 rfl) (lv_at hl 4 rfl) (by decide) dL_law_963 dL_law_964 dL_law_966 dL_law_967 dL_law_968 ?_
  obtain ⟨fs_, kc_⟩ := h0.cm
  refine k_i (r_V C h hl (As := [.int (xs (Int32.toNatClampNeg (i + 1))), .int (xs (Int32.toNatClampNeg (i + 2))), .int (xs (Int32.toNatClampNeg (i + 3))), .int (xs (Int32.toNatClampNeg (i + 4)))]) (rest := []) (lm_16 l D G b0 h0 _ _ _ _) kc_ (Cn := RX11) (T := TX11) (N := 32) rfl rfl mk_X11_reflected w_1779 w_1780 w_1781 w_1782 ⟨Nat.le_of_ble_eq_true rfl, Nat.le_of_ble_eq_true rfl⟩ rfl (Nat.le_of_ble_eq_true rfl) ⟨law_c2 hc (Nat.le_of_ble_eq_true rfl), law_s2 hs (Nat.le_of_ble_eq_true rfl)⟩ rfl dL_law_969) h (fun r969 f H locs hp h => ?_)
  obtain ⟨τ, h0⟩ := hp
  refine lv_pop hx hb dL_law_972 rfl ?_
  refine lv_goto (tgt := 2564) hx hb dL_law_973 (by decide) ?_
  refine W.widen (k := cells + 49) (n := slots + 4900) (law_w (Nat.le_of_ble_eq_true rfl)) (law_w (Nat.le_of_ble_eq_true rfl)) ?_
  exact kk _ _ _ _ _ h0 h (lv_sub hl [0, 1, 2, 3, 4] rfl)
set_option maxRecDepth 100000 in
set_option maxHeartbeats 4000000 in
theorem law_17 {p : Program} {l : Launch} {e : Env} {s : State} {m : MethodId} {below : List Frame} {meth : Method} {c : Code} (hst : l.stackTraces = false) {b L : Nat} {xs : Nat → Int32} (C0 : lw_At p s m meth c b L xs) {D : va_G} {G : Nat → Nat} {b0 : Nat} (hb0 : s.heap.size = b0) (hE0 : hE D G b0 s s.heap) {i : Int32} (hin : ∀ k : Int32, 0 ≤ k.toInt → k.toInt ≤ 7 → vp_in (i + k) L) {τ : Nat → Nat} {f : hM} {K sh qs M : Nat → Nat} {o : Nat} (h0 : LI G τ f K sh qs M o) {H : Heap} {locs : List Loc} {ls : Array Slot} (h : hw D b0 s.heap f H locs) (hl : lv_has ls 7 [(4, .int i), (3, .ref o), (2, .ref (M 0)), (1, .ref (K 0)), (0, .ref b)]) {cells slots : Nat} (hc : cells + 49 ≤ 601024) (hs : slots + 4900 ≤ 7293034) {Q : State → Prop} (kk : ∀ (τ1 : Nat → Nat) (f1 : hM) (H1 : Heap) (locs1 : List Loc) (ls1 : Array Slot), LI G τ1 f1 K sh qs M o → hw D b0 s.heap f1 H1 locs1 → lv_has ls1 7 [(4, .int i), (3, .ref o), (2, .ref (M 0)), (1, .ref (K 0)), (0, .ref b)] → W p l e room_1 s m #[Value.ref b] below meth c H1 locs1 (cells + 49) (slots + 4900) Q (F0 m 2564 ls1 [])) : W p l e room_1 s m #[Value.ref b] below meth c H locs cells slots Q (F0 m 976 ls []) := by
  obtain ⟨hx, hb, hr, hml, hown, hts0, hXs, hbl, hlk, hgv⟩ := id C0
  have hts : ∀ w ∈ wAll, w.before #[Value.ref b] s = true := fun w hw => hts0 w (wAll_tbl w hw)
  have C : hC p s m #[Value.ref b] meth c cL_law 7 RL D G b0 := ⟨hx, hb, hml, hown, hts, hE0, hlk⟩
  have hbA : ¬ hA b0 b := by rw [← hb0]; exact Nat.not_le.mpr hbl
  refine lv_aload_n hx hb dL_law_976 rfl (lv_at hl 3 rfl) ?_
  refine law_arg (v := 1) hx hb hXs hbl hbA h.2.2.1 (hin 1 (by decide) (by decide)) (lv_at hl 0 rfl) (lv_at hl 4 rfl) (by decide) dL_law_977 dL_law_978 dL_law_980 dL_law_981 dL_law_982 ?_
  refine law_arg (v := 2) hx hb hXs hbl hbA h.2.2.1 (hin 2 (by decide) (by decide)) (lv_at hl 0 rfl) (lv_at hl 4 rfl) (by decide) dL_law_983 dL_law_984 dL_law_986 dL_law_987 dL_law_988 ?_
  obtain ⟨fs_, kc_⟩ := h0.cx
  refine k_i (r_V C h hl (As := [.int (xs (Int32.toNatClampNeg (i + 1))), .int (xs (Int32.toNatClampNeg (i + 2)))]) (rest := []) (lx_17 l D G b0 h0 _ _) kc_ (Cn := RX10) (T := TX10) (N := 10) rfl rfl mk_X10_rank w_782 w_783 w_784 w_785 ⟨Nat.le_of_ble_eq_true rfl, Nat.le_of_ble_eq_true rfl⟩ rfl (Nat.le_of_ble_eq_true rfl) ⟨law_c1 hc (Nat.le_of_ble_eq_true rfl), law_s1 hs (Nat.le_of_ble_eq_true rfl)⟩ rfl dL_law_989) h (fun r989 f H locs hp h => ?_)
  obtain ⟨τ, h0⟩ := hp
  refine lv_pop hx hb dL_law_992 rfl ?_
  refine lv_aload_n hx hb dL_law_993 rfl (lv_at hl 2 rfl) ?_
  refine law_arg (v := 1) hx hb hXs hbl hbA h.2.2.1 (hin 1 (by decide) (by decide)) (lv_at hl 0 rfl) (lv_at hl 4 rfl) (by decide) dL_law_994 dL_law_995 dL_law_997 dL_law_998 dL_law_999 ?_
  refine law_arg (v := 2) hx hb hXs hbl hbA h.2.2.1 (hin 2 (by decide) (by decide)) (lv_at hl 0 rfl) (lv_at hl 4 rfl) (by decide) dL_law_1000 dL_law_1001 dL_law_1003 dL_law_1004 dL_law_1005 ?_
  obtain ⟨fs_, kc_⟩ := h0.cm
  refine k_i (r_V C h hl (As := [.int (xs (Int32.toNatClampNeg (i + 1))), .int (xs (Int32.toNatClampNeg (i + 2)))]) (rest := []) (lm_17 l D G b0 h0 _ _) kc_ (Cn := RX11) (T := TX11) (N := 32) rfl rfl mk_X11_rank w_1807 w_1808 w_1809 w_1810 ⟨Nat.le_of_ble_eq_true rfl, Nat.le_of_ble_eq_true rfl⟩ rfl (Nat.le_of_ble_eq_true rfl) ⟨law_c2 hc (Nat.le_of_ble_eq_true rfl), law_s2 hs (Nat.le_of_ble_eq_true rfl)⟩ rfl dL_law_1006) h (fun r1006 f H locs hp h => ?_)
  obtain ⟨τ, h0⟩ := hp
  refine lv_pop hx hb dL_law_1009 rfl ?_
  refine lv_goto (tgt := 2564) hx hb dL_law_1010 (by decide) ?_
  refine W.widen (k := cells + 49) (n := slots + 4900) (law_w (Nat.le_of_ble_eq_true rfl)) (law_w (Nat.le_of_ble_eq_true rfl)) ?_
  exact kk _ _ _ _ _ h0 h (lv_sub hl [0, 1, 2, 3, 4] rfl)
set_option maxRecDepth 100000 in
set_option maxHeartbeats 4000000 in
theorem law_18 {p : Program} {l : Launch} {e : Env} {s : State} {m : MethodId} {below : List Frame} {meth : Method} {c : Code} (hst : l.stackTraces = false) {b L : Nat} {xs : Nat → Int32} (C0 : lw_At p s m meth c b L xs) {D : va_G} {G : Nat → Nat} {b0 : Nat} (hb0 : s.heap.size = b0) (hE0 : hE D G b0 s s.heap) {i : Int32} (hin : ∀ k : Int32, 0 ≤ k.toInt → k.toInt ≤ 7 → vp_in (i + k) L) {τ : Nat → Nat} {f : hM} {K sh qs M : Nat → Nat} {o : Nat} (h0 : LI G τ f K sh qs M o) {H : Heap} {locs : List Loc} {ls : Array Slot} (h : hw D b0 s.heap f H locs) (hl : lv_has ls 7 [(4, .int i), (3, .ref o), (2, .ref (M 0)), (1, .ref (K 0)), (0, .ref b)]) {cells slots : Nat} (hc : cells + 49 ≤ 601024) (hs : slots + 4900 ≤ 7293034) {Q : State → Prop} (kk : ∀ (τ1 : Nat → Nat) (f1 : hM) (H1 : Heap) (locs1 : List Loc) (ls1 : Array Slot), LI G τ1 f1 K sh qs M o → hw D b0 s.heap f1 H1 locs1 → lv_has ls1 7 [(4, .int i), (3, .ref o), (2, .ref (M 0)), (1, .ref (K 0)), (0, .ref b)] → W p l e room_1 s m #[Value.ref b] below meth c H1 locs1 (cells + 49) (slots + 4900) Q (F0 m 2564 ls1 [])) : W p l e room_1 s m #[Value.ref b] below meth c H locs cells slots Q (F0 m 1013 ls []) := by
  obtain ⟨hx, hb, hr, hml, hown, hts0, hXs, hbl, hlk, hgv⟩ := id C0
  have hts : ∀ w ∈ wAll, w.before #[Value.ref b] s = true := fun w hw => hts0 w (wAll_tbl w hw)
  have C : hC p s m #[Value.ref b] meth c cL_law 7 RL D G b0 := ⟨hx, hb, hml, hown, hts, hE0, hlk⟩
  have hbA : ¬ hA b0 b := by rw [← hb0]; exact Nat.not_le.mpr hbl
  refine lv_aload_n hx hb dL_law_1013 rfl (lv_at hl 3 rfl) ?_
  refine law_arg (v := 1) hx hb hXs hbl hbA h.2.2.1 (hin 1 (by decide) (by decide)) (lv_at hl 0 rfl) (lv_at hl 4 rfl) (by decide) dL_law_1014 dL_law_1015 dL_law_1017 dL_law_1018 dL_law_1019 ?_
  refine law_arg (v := 2) hx hb hXs hbl hbA h.2.2.1 (hin 2 (by decide) (by decide)) (lv_at hl 0 rfl) (lv_at hl 4 rfl) (by decide) dL_law_1020 dL_law_1021 dL_law_1023 dL_law_1024 dL_law_1025 ?_
  refine law_arg (v := 3) hx hb hXs hbl hbA h.2.2.1 (hin 3 (by decide) (by decide)) (lv_at hl 0 rfl) (lv_at hl 4 rfl) (by decide) dL_law_1026 dL_law_1027 dL_law_1029 dL_law_1030 dL_law_1031 ?_
  obtain ⟨fs_, kc_⟩ := h0.cx
  refine k_i (r_V C h hl (As := [.int (xs (Int32.toNatClampNeg (i + 1))), .int (xs (Int32.toNatClampNeg (i + 2))), .int (xs (Int32.toNatClampNeg (i + 3)))]) (rest := []) (lx_18 l D G b0 h0 _ _ _) kc_ (Cn := RX10) (T := TX10) (N := 10) rfl rfl mk_X10_ratio w_817 w_818 w_819 w_820 ⟨Nat.le_of_ble_eq_true rfl, Nat.le_of_ble_eq_true rfl⟩ rfl (Nat.le_of_ble_eq_true rfl) ⟨law_c1 hc (Nat.le_of_ble_eq_true rfl), law_s1 hs (Nat.le_of_ble_eq_true rfl)⟩ rfl dL_law_1032) h (fun r1032 f H locs hp h => ?_)
  obtain ⟨τ, h0⟩ := hp
  refine lv_pop hx hb dL_law_1035 rfl ?_
  refine lv_aload_n hx hb dL_law_1036 rfl (lv_at hl 2 rfl) ?_
  refine law_arg (v := 1) hx hb hXs hbl hbA h.2.2.1 (hin 1 (by decide) (by decide)) (lv_at hl 0 rfl) (lv_at hl 4 rfl) (by decide) dL_law_1037 dL_law_1038 dL_law_1040 dL_law_1041 dL_law_1042 ?_
  refine law_arg (v := 2) hx hb hXs hbl hbA h.2.2.1 (hin 2 (by decide) (by decide)) (lv_at hl 0 rfl) (lv_at hl 4 rfl) (by decide) dL_law_1043 dL_law_1044 dL_law_1046 dL_law_1047 dL_law_1048 ?_
  refine law_arg (v := 3) hx hb hXs hbl hbA h.2.2.1 (hin 3 (by decide) (by decide)) (lv_at hl 0 rfl) (lv_at hl 4 rfl) (by decide) dL_law_1049 dL_law_1050 dL_law_1052 dL_law_1053 dL_law_1054 ?_
  obtain ⟨fs_, kc_⟩ := h0.cm
  refine k_i (r_V C h hl (As := [.int (xs (Int32.toNatClampNeg (i + 1))), .int (xs (Int32.toNatClampNeg (i + 2))), .int (xs (Int32.toNatClampNeg (i + 3)))]) (rest := []) (lm_18 l D G b0 h0 _ _ _) kc_ (Cn := RX11) (T := TX11) (N := 32) rfl rfl mk_X11_ratio w_1812 w_1813 w_1814 w_1815 ⟨Nat.le_of_ble_eq_true rfl, Nat.le_of_ble_eq_true rfl⟩ rfl (Nat.le_of_ble_eq_true rfl) ⟨law_c2 hc (Nat.le_of_ble_eq_true rfl), law_s2 hs (Nat.le_of_ble_eq_true rfl)⟩ rfl dL_law_1055) h (fun r1055 f H locs hp h => ?_)
  obtain ⟨τ, h0⟩ := hp
  refine lv_pop hx hb dL_law_1058 rfl ?_
  refine lv_goto (tgt := 2564) hx hb dL_law_1059 (by decide) ?_
  refine W.widen (k := cells + 49) (n := slots + 4900) (law_w (Nat.le_of_ble_eq_true rfl)) (law_w (Nat.le_of_ble_eq_true rfl)) ?_
  exact kk _ _ _ _ _ h0 h (lv_sub hl [0, 1, 2, 3, 4] rfl)
set_option maxRecDepth 100000 in
set_option maxHeartbeats 4000000 in
theorem law_19 {p : Program} {l : Launch} {e : Env} {s : State} {m : MethodId} {below : List Frame} {meth : Method} {c : Code} (hst : l.stackTraces = false) {b L : Nat} {xs : Nat → Int32} (C0 : lw_At p s m meth c b L xs) {D : va_G} {G : Nat → Nat} {b0 : Nat} (hb0 : s.heap.size = b0) (hE0 : hE D G b0 s s.heap) {i : Int32} (hin : ∀ k : Int32, 0 ≤ k.toInt → k.toInt ≤ 7 → vp_in (i + k) L) {τ : Nat → Nat} {f : hM} {K sh qs M : Nat → Nat} {o : Nat} (h0 : LI G τ f K sh qs M o) {H : Heap} {locs : List Loc} {ls : Array Slot} (h : hw D b0 s.heap f H locs) (hl : lv_has ls 7 [(4, .int i), (3, .ref o), (2, .ref (M 0)), (1, .ref (K 0)), (0, .ref b)]) {cells slots : Nat} (hc : cells + 49 ≤ 601024) (hs : slots + 4900 ≤ 7293034) {Q : State → Prop} (kk : ∀ (τ1 : Nat → Nat) (f1 : hM) (H1 : Heap) (locs1 : List Loc) (ls1 : Array Slot), LI G τ1 f1 K sh qs M o → hw D b0 s.heap f1 H1 locs1 → lv_has ls1 7 [(4, .int i), (3, .ref o), (2, .ref (M 0)), (1, .ref (K 0)), (0, .ref b)] → W p l e room_1 s m #[Value.ref b] below meth c H1 locs1 (cells + 49) (slots + 4900) Q (F0 m 2564 ls1 [])) : W p l e room_1 s m #[Value.ref b] below meth c H locs cells slots Q (F0 m 1062 ls []) := by
  obtain ⟨hx, hb, hr, hml, hown, hts0, hXs, hbl, hlk, hgv⟩ := id C0
  have hts : ∀ w ∈ wAll, w.before #[Value.ref b] s = true := fun w hw => hts0 w (wAll_tbl w hw)
  have C : hC p s m #[Value.ref b] meth c cL_law 7 RL D G b0 := ⟨hx, hb, hml, hown, hts, hE0, hlk⟩
  have hbA : ¬ hA b0 b := by rw [← hb0]; exact Nat.not_le.mpr hbl
  refine lv_aload_n hx hb dL_law_1062 rfl (lv_at hl 3 rfl) ?_
  refine law_arg (v := 1) hx hb hXs hbl hbA h.2.2.1 (hin 1 (by decide) (by decide)) (lv_at hl 0 rfl) (lv_at hl 4 rfl) (by decide) dL_law_1063 dL_law_1064 dL_law_1066 dL_law_1067 dL_law_1068 ?_
  refine law_arg (v := 2) hx hb hXs hbl hbA h.2.2.1 (hin 2 (by decide) (by decide)) (lv_at hl 0 rfl) (lv_at hl 4 rfl) (by decide) dL_law_1069 dL_law_1070 dL_law_1072 dL_law_1073 dL_law_1074 ?_
  refine law_arg (v := 3) hx hb hXs hbl hbA h.2.2.1 (hin 3 (by decide) (by decide)) (lv_at hl 0 rfl) (lv_at hl 4 rfl) (by decide) dL_law_1075 dL_law_1076 dL_law_1078 dL_law_1079 dL_law_1080 ?_
  obtain ⟨fs_, kc_⟩ := h0.cx
  refine k_i (r_V C h hl (As := [.int (xs (Int32.toNatClampNeg (i + 1))), .int (xs (Int32.toNatClampNeg (i + 2))), .int (xs (Int32.toNatClampNeg (i + 3)))]) (rest := []) (lx_19 l D G b0 h0 _ _ _) kc_ (Cn := RX10) (T := TX10) (N := 10) rfl rfl mk_X10_hankel w_823 w_824 w_825 w_826 ⟨Nat.le_of_ble_eq_true rfl, Nat.le_of_ble_eq_true rfl⟩ rfl (Nat.le_of_ble_eq_true rfl) ⟨law_c1 hc (Nat.le_of_ble_eq_true rfl), law_s1 hs (Nat.le_of_ble_eq_true rfl)⟩ rfl dL_law_1081) h (fun r1081 f H locs hp h => ?_)
  obtain ⟨τ, h0⟩ := hp
  refine lv_pop hx hb dL_law_1084 rfl ?_
  refine lv_aload_n hx hb dL_law_1085 rfl (lv_at hl 2 rfl) ?_
  refine law_arg (v := 1) hx hb hXs hbl hbA h.2.2.1 (hin 1 (by decide) (by decide)) (lv_at hl 0 rfl) (lv_at hl 4 rfl) (by decide) dL_law_1086 dL_law_1087 dL_law_1089 dL_law_1090 dL_law_1091 ?_
  refine law_arg (v := 2) hx hb hXs hbl hbA h.2.2.1 (hin 2 (by decide) (by decide)) (lv_at hl 0 rfl) (lv_at hl 4 rfl) (by decide) dL_law_1092 dL_law_1093 dL_law_1095 dL_law_1096 dL_law_1097 ?_
  refine law_arg (v := 3) hx hb hXs hbl hbA h.2.2.1 (hin 3 (by decide) (by decide)) (lv_at hl 0 rfl) (lv_at hl 4 rfl) (by decide) dL_law_1098 dL_law_1099 dL_law_1101 dL_law_1102 dL_law_1103 ?_
  obtain ⟨fs_, kc_⟩ := h0.cm
  refine k_i (r_V C h hl (As := [.int (xs (Int32.toNatClampNeg (i + 1))), .int (xs (Int32.toNatClampNeg (i + 2))), .int (xs (Int32.toNatClampNeg (i + 3)))]) (rest := []) (lm_19 l D G b0 h0 _ _ _) kc_ (Cn := RX11) (T := TX11) (N := 32) rfl rfl mk_X11_hankel w_1791 w_1792 w_1793 w_1794 ⟨Nat.le_of_ble_eq_true rfl, Nat.le_of_ble_eq_true rfl⟩ rfl (Nat.le_of_ble_eq_true rfl) ⟨law_c2 hc (Nat.le_of_ble_eq_true rfl), law_s2 hs (Nat.le_of_ble_eq_true rfl)⟩ rfl dL_law_1104) h (fun r1104 f H locs hp h => ?_)
  obtain ⟨τ, h0⟩ := hp
  refine lv_pop hx hb dL_law_1107 rfl ?_
  refine lv_goto (tgt := 2564) hx hb dL_law_1108 (by decide) ?_
  refine W.widen (k := cells + 49) (n := slots + 4900) (law_w (Nat.le_of_ble_eq_true rfl)) (law_w (Nat.le_of_ble_eq_true rfl)) ?_
  exact kk _ _ _ _ _ h0 h (lv_sub hl [0, 1, 2, 3, 4] rfl)
set_option maxRecDepth 100000 in
set_option maxHeartbeats 4000000 in
theorem law_20 {p : Program} {l : Launch} {e : Env} {s : State} {m : MethodId} {below : List Frame} {meth : Method} {c : Code} (hst : l.stackTraces = false) {b L : Nat} {xs : Nat → Int32} (C0 : lw_At p s m meth c b L xs) {D : va_G} {G : Nat → Nat} {b0 : Nat} (hb0 : s.heap.size = b0) (hE0 : hE D G b0 s s.heap) {i : Int32} (hin : ∀ k : Int32, 0 ≤ k.toInt → k.toInt ≤ 7 → vp_in (i + k) L) {τ : Nat → Nat} {f : hM} {K sh qs M : Nat → Nat} {o : Nat} (h0 : LI G τ f K sh qs M o) {H : Heap} {locs : List Loc} {ls : Array Slot} (h : hw D b0 s.heap f H locs) (hl : lv_has ls 7 [(4, .int i), (3, .ref o), (2, .ref (M 0)), (1, .ref (K 0)), (0, .ref b)]) {cells slots : Nat} (hc : cells + 49 ≤ 601024) (hs : slots + 4900 ≤ 7293034) {Q : State → Prop} (kk : ∀ (τ1 : Nat → Nat) (f1 : hM) (H1 : Heap) (locs1 : List Loc) (ls1 : Array Slot), LI G τ1 f1 K sh qs M o → hw D b0 s.heap f1 H1 locs1 → lv_has ls1 7 [(4, .int i), (3, .ref o), (2, .ref (M 0)), (1, .ref (K 0)), (0, .ref b)] → W p l e room_1 s m #[Value.ref b] below meth c H1 locs1 (cells + 49) (slots + 4900) Q (F0 m 2564 ls1 [])) : W p l e room_1 s m #[Value.ref b] below meth c H locs cells slots Q (F0 m 1111 ls []) := by
  obtain ⟨hx, hb, hr, hml, hown, hts0, hXs, hbl, hlk, hgv⟩ := id C0
  have hts : ∀ w ∈ wAll, w.before #[Value.ref b] s = true := fun w hw => hts0 w (wAll_tbl w hw)
  have C : hC p s m #[Value.ref b] meth c cL_law 7 RL D G b0 := ⟨hx, hb, hml, hown, hts, hE0, hlk⟩
  have hbA : ¬ hA b0 b := by rw [← hb0]; exact Nat.not_le.mpr hbl
  refine lv_aload_n hx hb dL_law_1111 rfl (lv_at hl 3 rfl) ?_
  refine law_arg (v := 1) hx hb hXs hbl hbA h.2.2.1 (hin 1 (by decide) (by decide)) (lv_at hl 0 rfl) (lv_at hl 4 rfl) (by decide) dL_law_1112 dL_law_1113 dL_law_1115 dL_law_1116 dL_law_1117 ?_
  refine law_arg (v := 2) hx hb hXs hbl hbA h.2.2.1 (hin 2 (by decide) (by decide)) (lv_at hl 0 rfl) (lv_at hl 4 rfl) (by decide) dL_law_1118 dL_law_1119 dL_law_1121 dL_law_1122 dL_law_1123 ?_
  refine law_arg (v := 3) hx hb hXs hbl hbA h.2.2.1 (hin 3 (by decide) (by decide)) (lv_at hl 0 rfl) (lv_at hl 4 rfl) (by decide) dL_law_1124 dL_law_1125 dL_law_1127 dL_law_1128 dL_law_1129 ?_
  refine law_arg (v := 4) hx hb hXs hbl hbA h.2.2.1 (hin 4 (by decide) (by decide)) (lv_at hl 0 rfl) (lv_at hl 4 rfl) (by decide) dL_law_1130 dL_law_1131 dL_law_1133 dL_law_1134 dL_law_1135 ?_
  refine law_arg (v := 5) hx hb hXs hbl hbA h.2.2.1 (hin 5 (by decide) (by decide)) (lv_at hl 0 rfl) (lv_at hl 4 rfl) (by decide) dL_law_1136 dL_law_1137 dL_law_1139 dL_law_1140 dL_law_1141 ?_
  obtain ⟨fs_, kc_⟩ := h0.cx
  refine k_i (r_V C h hl (As := [.int (xs (Int32.toNatClampNeg (i + 1))), .int (xs (Int32.toNatClampNeg (i + 2))), .int (xs (Int32.toNatClampNeg (i + 3))), .int (xs (Int32.toNatClampNeg (i + 4))), .int (xs (Int32.toNatClampNeg (i + 5)))]) (rest := []) (lx_20 l D G b0 h0 _ _ _ _ _) kc_ (Cn := RX10) (T := TX10) (N := 10) rfl rfl mk_X10_convolved w_831 w_832 w_833 w_834 ⟨Nat.le_of_ble_eq_true rfl, Nat.le_of_ble_eq_true rfl⟩ rfl (Nat.le_of_ble_eq_true rfl) ⟨law_c1 hc (Nat.le_of_ble_eq_true rfl), law_s1 hs (Nat.le_of_ble_eq_true rfl)⟩ rfl dL_law_1142) h (fun r1142 f H locs hp h => ?_)
  obtain ⟨τ, h0⟩ := hp
  refine lv_pop hx hb dL_law_1145 rfl ?_
  refine lv_aload_n hx hb dL_law_1146 rfl (lv_at hl 2 rfl) ?_
  refine law_arg (v := 1) hx hb hXs hbl hbA h.2.2.1 (hin 1 (by decide) (by decide)) (lv_at hl 0 rfl) (lv_at hl 4 rfl) (by decide) dL_law_1147 dL_law_1148 dL_law_1150 dL_law_1151 dL_law_1152 ?_
  refine law_arg (v := 2) hx hb hXs hbl hbA h.2.2.1 (hin 2 (by decide) (by decide)) (lv_at hl 0 rfl) (lv_at hl 4 rfl) (by decide) dL_law_1153 dL_law_1154 dL_law_1156 dL_law_1157 dL_law_1158 ?_
  refine law_arg (v := 3) hx hb hXs hbl hbA h.2.2.1 (hin 3 (by decide) (by decide)) (lv_at hl 0 rfl) (lv_at hl 4 rfl) (by decide) dL_law_1159 dL_law_1160 dL_law_1162 dL_law_1163 dL_law_1164 ?_
  refine law_arg (v := 4) hx hb hXs hbl hbA h.2.2.1 (hin 4 (by decide) (by decide)) (lv_at hl 0 rfl) (lv_at hl 4 rfl) (by decide) dL_law_1165 dL_law_1166 dL_law_1168 dL_law_1169 dL_law_1170 ?_
  refine law_arg (v := 5) hx hb hXs hbl hbA h.2.2.1 (hin 5 (by decide) (by decide)) (lv_at hl 0 rfl) (lv_at hl 4 rfl) (by decide) dL_law_1171 dL_law_1172 dL_law_1174 dL_law_1175 dL_law_1176 ?_
  obtain ⟨fs_, kc_⟩ := h0.cm
  refine k_i (r_V C h hl (As := [.int (xs (Int32.toNatClampNeg (i + 1))), .int (xs (Int32.toNatClampNeg (i + 2))), .int (xs (Int32.toNatClampNeg (i + 3))), .int (xs (Int32.toNatClampNeg (i + 4))), .int (xs (Int32.toNatClampNeg (i + 5)))]) (rest := []) (lm_20 l D G b0 h0 _ _ _ _ _) kc_ (Cn := RX11) (T := TX11) (N := 32) rfl rfl mk_X11_convolved w_1767 w_1768 w_1769 w_1770 ⟨Nat.le_of_ble_eq_true rfl, Nat.le_of_ble_eq_true rfl⟩ rfl (Nat.le_of_ble_eq_true rfl) ⟨law_c2 hc (Nat.le_of_ble_eq_true rfl), law_s2 hs (Nat.le_of_ble_eq_true rfl)⟩ rfl dL_law_1177) h (fun r1177 f H locs hp h => ?_)
  obtain ⟨τ, h0⟩ := hp
  refine lv_pop hx hb dL_law_1180 rfl ?_
  refine lv_goto (tgt := 2564) hx hb dL_law_1181 (by decide) ?_
  refine W.widen (k := cells + 49) (n := slots + 4900) (law_w (Nat.le_of_ble_eq_true rfl)) (law_w (Nat.le_of_ble_eq_true rfl)) ?_
  exact kk _ _ _ _ _ h0 h (lv_sub hl [0, 1, 2, 3, 4] rfl)
set_option maxRecDepth 100000 in
set_option maxHeartbeats 4000000 in
theorem law_21 {p : Program} {l : Launch} {e : Env} {s : State} {m : MethodId} {below : List Frame} {meth : Method} {c : Code} (hst : l.stackTraces = false) {b L : Nat} {xs : Nat → Int32} (C0 : lw_At p s m meth c b L xs) {D : va_G} {G : Nat → Nat} {b0 : Nat} (hb0 : s.heap.size = b0) (hE0 : hE D G b0 s s.heap) {i : Int32} (hin : ∀ k : Int32, 0 ≤ k.toInt → k.toInt ≤ 7 → vp_in (i + k) L) {τ : Nat → Nat} {f : hM} {K sh qs M : Nat → Nat} {o : Nat} (h0 : LI G τ f K sh qs M o) {H : Heap} {locs : List Loc} {ls : Array Slot} (h : hw D b0 s.heap f H locs) (hl : lv_has ls 7 [(4, .int i), (3, .ref o), (2, .ref (M 0)), (1, .ref (K 0)), (0, .ref b)]) {cells slots : Nat} (hc : cells + 49 ≤ 601024) (hs : slots + 4900 ≤ 7293034) {Q : State → Prop} (kk : ∀ (τ1 : Nat → Nat) (f1 : hM) (H1 : Heap) (locs1 : List Loc) (ls1 : Array Slot), LI G τ1 f1 K sh qs M o → hw D b0 s.heap f1 H1 locs1 → lv_has ls1 7 [(4, .int i), (3, .ref o), (2, .ref (M 0)), (1, .ref (K 0)), (0, .ref b)] → W p l e room_1 s m #[Value.ref b] below meth c H1 locs1 (cells + 49) (slots + 4900) Q (F0 m 2564 ls1 [])) : W p l e room_1 s m #[Value.ref b] below meth c H locs cells slots Q (F0 m 1184 ls []) := by
  obtain ⟨hx, hb, hr, hml, hown, hts0, hXs, hbl, hlk, hgv⟩ := id C0
  have hts : ∀ w ∈ wAll, w.before #[Value.ref b] s = true := fun w hw => hts0 w (wAll_tbl w hw)
  have C : hC p s m #[Value.ref b] meth c cL_law 7 RL D G b0 := ⟨hx, hb, hml, hown, hts, hE0, hlk⟩
  have hbA : ¬ hA b0 b := by rw [← hb0]; exact Nat.not_le.mpr hbl
  refine lv_aload_n hx hb dL_law_1184 rfl (lv_at hl 3 rfl) ?_
  refine law_arg (v := 1) hx hb hXs hbl hbA h.2.2.1 (hin 1 (by decide) (by decide)) (lv_at hl 0 rfl) (lv_at hl 4 rfl) (by decide) dL_law_1185 dL_law_1186 dL_law_1188 dL_law_1189 dL_law_1190 ?_
  refine law_arg (v := 2) hx hb hXs hbl hbA h.2.2.1 (hin 2 (by decide) (by decide)) (lv_at hl 0 rfl) (lv_at hl 4 rfl) (by decide) dL_law_1191 dL_law_1192 dL_law_1194 dL_law_1195 dL_law_1196 ?_
  obtain ⟨fs_, kc_⟩ := h0.cx
  refine k_i (r_V C h hl (As := [.int (xs (Int32.toNatClampNeg (i + 1))), .int (xs (Int32.toNatClampNeg (i + 2)))]) (rest := []) (lx_21 l D G b0 h0 _ _) kc_ (Cn := RX10) (T := TX10) (N := 10) rfl rfl mk_X10_out w_835 w_836 w_837 w_838 ⟨Nat.le_of_ble_eq_true rfl, Nat.le_of_ble_eq_true rfl⟩ rfl (Nat.le_of_ble_eq_true rfl) ⟨law_c1 hc (Nat.le_of_ble_eq_true rfl), law_s1 hs (Nat.le_of_ble_eq_true rfl)⟩ rfl dL_law_1197) h (fun r1197 f H locs hp h => ?_)
  obtain ⟨τ, h0⟩ := hp
  refine lv_pop hx hb dL_law_1200 rfl ?_
  refine lv_aload_n hx hb dL_law_1201 rfl (lv_at hl 2 rfl) ?_
  refine law_arg (v := 1) hx hb hXs hbl hbA h.2.2.1 (hin 1 (by decide) (by decide)) (lv_at hl 0 rfl) (lv_at hl 4 rfl) (by decide) dL_law_1202 dL_law_1203 dL_law_1205 dL_law_1206 dL_law_1207 ?_
  refine law_arg (v := 2) hx hb hXs hbl hbA h.2.2.1 (hin 2 (by decide) (by decide)) (lv_at hl 0 rfl) (lv_at hl 4 rfl) (by decide) dL_law_1208 dL_law_1209 dL_law_1211 dL_law_1212 dL_law_1213 ?_
  obtain ⟨fs_, kc_⟩ := h0.cm
  refine k_i (r_V C h hl (As := [.int (xs (Int32.toNatClampNeg (i + 1))), .int (xs (Int32.toNatClampNeg (i + 2)))]) (rest := []) (lm_21 l D G b0 h0 _ _) kc_ (Cn := RX11) (T := TX11) (N := 32) rfl rfl mk_X11_out w_1749 w_1750 w_1751 w_1752 ⟨Nat.le_of_ble_eq_true rfl, Nat.le_of_ble_eq_true rfl⟩ rfl (Nat.le_of_ble_eq_true rfl) ⟨law_c2 hc (Nat.le_of_ble_eq_true rfl), law_s2 hs (Nat.le_of_ble_eq_true rfl)⟩ rfl dL_law_1214) h (fun r1214 f H locs hp h => ?_)
  obtain ⟨τ, h0⟩ := hp
  refine lv_pop hx hb dL_law_1217 rfl ?_
  refine lv_goto (tgt := 2564) hx hb dL_law_1218 (by decide) ?_
  refine W.widen (k := cells + 49) (n := slots + 4900) (law_w (Nat.le_of_ble_eq_true rfl)) (law_w (Nat.le_of_ble_eq_true rfl)) ?_
  exact kk _ _ _ _ _ h0 h (lv_sub hl [0, 1, 2, 3, 4] rfl)
set_option maxRecDepth 100000 in
set_option maxHeartbeats 4000000 in
theorem law_22 {p : Program} {l : Launch} {e : Env} {s : State} {m : MethodId} {below : List Frame} {meth : Method} {c : Code} (hst : l.stackTraces = false) {b L : Nat} {xs : Nat → Int32} (C0 : lw_At p s m meth c b L xs) {D : va_G} {G : Nat → Nat} {b0 : Nat} (hb0 : s.heap.size = b0) (hE0 : hE D G b0 s s.heap) {i : Int32} (hin : ∀ k : Int32, 0 ≤ k.toInt → k.toInt ≤ 7 → vp_in (i + k) L) {τ : Nat → Nat} {f : hM} {K sh qs M : Nat → Nat} {o : Nat} (h0 : LI G τ f K sh qs M o) {H : Heap} {locs : List Loc} {ls : Array Slot} (h : hw D b0 s.heap f H locs) (hl : lv_has ls 7 [(4, .int i), (3, .ref o), (2, .ref (M 0)), (1, .ref (K 0)), (0, .ref b)]) {cells slots : Nat} (hc : cells + 49 ≤ 601024) (hs : slots + 4900 ≤ 7293034) {Q : State → Prop} (kk : ∀ (τ1 : Nat → Nat) (f1 : hM) (H1 : Heap) (locs1 : List Loc) (ls1 : Array Slot), LI G τ1 f1 K sh qs M o → hw D b0 s.heap f1 H1 locs1 → lv_has ls1 7 [(4, .int i), (3, .ref o), (2, .ref (M 0)), (1, .ref (K 0)), (0, .ref b)] → W p l e room_1 s m #[Value.ref b] below meth c H1 locs1 (cells + 49) (slots + 4900) Q (F0 m 2564 ls1 [])) : W p l e room_1 s m #[Value.ref b] below meth c H locs cells slots Q (F0 m 1221 ls []) := by
  obtain ⟨hx, hb, hr, hml, hown, hts0, hXs, hbl, hlk, hgv⟩ := id C0
  have hts : ∀ w ∈ wAll, w.before #[Value.ref b] s = true := fun w hw => hts0 w (wAll_tbl w hw)
  have C : hC p s m #[Value.ref b] meth c cL_law 7 RL D G b0 := ⟨hx, hb, hml, hown, hts, hE0, hlk⟩
  have hbA : ¬ hA b0 b := by rw [← hb0]; exact Nat.not_le.mpr hbl
  refine lv_aload_n hx hb dL_law_1221 rfl (lv_at hl 3 rfl) ?_
  refine law_arg (v := 1) hx hb hXs hbl hbA h.2.2.1 (hin 1 (by decide) (by decide)) (lv_at hl 0 rfl) (lv_at hl 4 rfl) (by decide) dL_law_1222 dL_law_1223 dL_law_1225 dL_law_1226 dL_law_1227 ?_
  refine law_arg (v := 2) hx hb hXs hbl hbA h.2.2.1 (hin 2 (by decide) (by decide)) (lv_at hl 0 rfl) (lv_at hl 4 rfl) (by decide) dL_law_1228 dL_law_1229 dL_law_1231 dL_law_1232 dL_law_1233 ?_
  obtain ⟨fs_, kc_⟩ := h0.cx
  refine k_i (r_V C h hl (As := [.int (xs (Int32.toNatClampNeg (i + 1))), .int (xs (Int32.toNatClampNeg (i + 2)))]) (rest := []) (lx_22 l D G b0 h0 _ _) kc_ (Cn := RX10) (T := TX10) (N := 10) rfl rfl mk_X10_arches w_847 w_848 w_849 w_850 ⟨Nat.le_of_ble_eq_true rfl, Nat.le_of_ble_eq_true rfl⟩ rfl (Nat.le_of_ble_eq_true rfl) ⟨law_c1 hc (Nat.le_of_ble_eq_true rfl), law_s1 hs (Nat.le_of_ble_eq_true rfl)⟩ rfl dL_law_1234) h (fun r1234 f H locs hp h => ?_)
  obtain ⟨τ, h0⟩ := hp
  refine lv_pop hx hb dL_law_1237 rfl ?_
  refine lv_aload_n hx hb dL_law_1238 rfl (lv_at hl 2 rfl) ?_
  refine law_arg (v := 1) hx hb hXs hbl hbA h.2.2.1 (hin 1 (by decide) (by decide)) (lv_at hl 0 rfl) (lv_at hl 4 rfl) (by decide) dL_law_1239 dL_law_1240 dL_law_1242 dL_law_1243 dL_law_1244 ?_
  refine law_arg (v := 2) hx hb hXs hbl hbA h.2.2.1 (hin 2 (by decide) (by decide)) (lv_at hl 0 rfl) (lv_at hl 4 rfl) (by decide) dL_law_1245 dL_law_1246 dL_law_1248 dL_law_1249 dL_law_1250 ?_
  obtain ⟨fs_, kc_⟩ := h0.cm
  refine k_i (r_V C h hl (As := [.int (xs (Int32.toNatClampNeg (i + 1))), .int (xs (Int32.toNatClampNeg (i + 2)))]) (rest := []) (lm_22 l D G b0 h0 _ _) kc_ (Cn := RX11) (T := TX11) (N := 32) rfl rfl mk_X11_arches w_1753 w_1754 w_1755 w_1756 ⟨Nat.le_of_ble_eq_true rfl, Nat.le_of_ble_eq_true rfl⟩ rfl (Nat.le_of_ble_eq_true rfl) ⟨law_c2 hc (Nat.le_of_ble_eq_true rfl), law_s2 hs (Nat.le_of_ble_eq_true rfl)⟩ rfl dL_law_1251) h (fun r1251 f H locs hp h => ?_)
  obtain ⟨τ, h0⟩ := hp
  refine lv_pop hx hb dL_law_1254 rfl ?_
  refine lv_goto (tgt := 2564) hx hb dL_law_1255 (by decide) ?_
  refine W.widen (k := cells + 49) (n := slots + 4900) (law_w (Nat.le_of_ble_eq_true rfl)) (law_w (Nat.le_of_ble_eq_true rfl)) ?_
  exact kk _ _ _ _ _ h0 h (lv_sub hl [0, 1, 2, 3, 4] rfl)
set_option maxRecDepth 100000 in
set_option maxHeartbeats 4000000 in
theorem law_23 {p : Program} {l : Launch} {e : Env} {s : State} {m : MethodId} {below : List Frame} {meth : Method} {c : Code} (hst : l.stackTraces = false) {b L : Nat} {xs : Nat → Int32} (C0 : lw_At p s m meth c b L xs) {D : va_G} {G : Nat → Nat} {b0 : Nat} (hb0 : s.heap.size = b0) (hE0 : hE D G b0 s s.heap) {i : Int32} (hin : ∀ k : Int32, 0 ≤ k.toInt → k.toInt ≤ 7 → vp_in (i + k) L) {τ : Nat → Nat} {f : hM} {K sh qs M : Nat → Nat} {o : Nat} (h0 : LI G τ f K sh qs M o) {H : Heap} {locs : List Loc} {ls : Array Slot} (h : hw D b0 s.heap f H locs) (hl : lv_has ls 7 [(4, .int i), (3, .ref o), (2, .ref (M 0)), (1, .ref (K 0)), (0, .ref b)]) {cells slots : Nat} (hc : cells + 49 ≤ 601024) (hs : slots + 4900 ≤ 7293034) {Q : State → Prop} (kk : ∀ (τ1 : Nat → Nat) (f1 : hM) (H1 : Heap) (locs1 : List Loc) (ls1 : Array Slot), LI G τ1 f1 K sh qs M o → hw D b0 s.heap f1 H1 locs1 → lv_has ls1 7 [(4, .int i), (3, .ref o), (2, .ref (M 0)), (1, .ref (K 0)), (0, .ref b)] → W p l e room_1 s m #[Value.ref b] below meth c H1 locs1 (cells + 49) (slots + 4900) Q (F0 m 2564 ls1 [])) : W p l e room_1 s m #[Value.ref b] below meth c H locs cells slots Q (F0 m 1258 ls []) := by
  obtain ⟨hx, hb, hr, hml, hown, hts0, hXs, hbl, hlk, hgv⟩ := id C0
  have hts : ∀ w ∈ wAll, w.before #[Value.ref b] s = true := fun w hw => hts0 w (wAll_tbl w hw)
  have C : hC p s m #[Value.ref b] meth c cL_law 7 RL D G b0 := ⟨hx, hb, hml, hown, hts, hE0, hlk⟩
  have hbA : ¬ hA b0 b := by rw [← hb0]; exact Nat.not_le.mpr hbl
  refine lv_aload_n hx hb dL_law_1258 rfl (lv_at hl 3 rfl) ?_
  refine law_arg (v := 1) hx hb hXs hbl hbA h.2.2.1 (hin 1 (by decide) (by decide)) (lv_at hl 0 rfl) (lv_at hl 4 rfl) (by decide) dL_law_1259 dL_law_1260 dL_law_1262 dL_law_1263 dL_law_1264 ?_
  refine law_arg (v := 2) hx hb hXs hbl hbA h.2.2.1 (hin 2 (by decide) (by decide)) (lv_at hl 0 rfl) (lv_at hl 4 rfl) (by decide) dL_law_1265 dL_law_1266 dL_law_1268 dL_law_1269 dL_law_1270 ?_
  refine law_arg (v := 3) hx hb hXs hbl hbA h.2.2.1 (hin 3 (by decide) (by decide)) (lv_at hl 0 rfl) (lv_at hl 4 rfl) (by decide) dL_law_1271 dL_law_1272 dL_law_1274 dL_law_1275 dL_law_1276 ?_
  refine law_arg (v := 4) hx hb hXs hbl hbA h.2.2.1 (hin 4 (by decide) (by decide)) (lv_at hl 0 rfl) (lv_at hl 4 rfl) (by decide) dL_law_1277 dL_law_1278 dL_law_1280 dL_law_1281 dL_law_1282 ?_
  obtain ⟨fs_, kc_⟩ := h0.cx
  refine k_i (r_V C h hl (As := [.int (xs (Int32.toNatClampNeg (i + 1))), .int (xs (Int32.toNatClampNeg (i + 2))), .int (xs (Int32.toNatClampNeg (i + 3))), .int (xs (Int32.toNatClampNeg (i + 4)))]) (rest := []) (lx_23 l D G b0 h0 _ _ _ _) kc_ (Cn := RX10) (T := TX10) (N := 10) rfl rfl mk_X10_value w_851 w_852 w_853 w_854 ⟨Nat.le_of_ble_eq_true rfl, Nat.le_of_ble_eq_true rfl⟩ rfl (Nat.le_of_ble_eq_true rfl) ⟨law_c1 hc (Nat.le_of_ble_eq_true rfl), law_s1 hs (Nat.le_of_ble_eq_true rfl)⟩ rfl dL_law_1283) h (fun r1283 f H locs hp h => ?_)
  obtain ⟨τ, h0⟩ := hp
  refine lv_pop hx hb dL_law_1286 rfl ?_
  refine lv_aload_n hx hb dL_law_1287 rfl (lv_at hl 2 rfl) ?_
  refine law_arg (v := 1) hx hb hXs hbl hbA h.2.2.1 (hin 1 (by decide) (by decide)) (lv_at hl 0 rfl) (lv_at hl 4 rfl) (by decide) dL_law_1288 dL_law_1289 dL_law_1291 dL_law_1292 dL_law_1293 ?_
  refine law_arg (v := 2) hx hb hXs hbl hbA h.2.2.1 (hin 2 (by decide) (by decide)) (lv_at hl 0 rfl) (lv_at hl 4 rfl) (by decide) dL_law_1294 dL_law_1295 dL_law_1297 dL_law_1298 dL_law_1299 ?_
  refine law_arg (v := 3) hx hb hXs hbl hbA h.2.2.1 (hin 3 (by decide) (by decide)) (lv_at hl 0 rfl) (lv_at hl 4 rfl) (by decide) dL_law_1300 dL_law_1301 dL_law_1303 dL_law_1304 dL_law_1305 ?_
  refine law_arg (v := 4) hx hb hXs hbl hbA h.2.2.1 (hin 4 (by decide) (by decide)) (lv_at hl 0 rfl) (lv_at hl 4 rfl) (by decide) dL_law_1306 dL_law_1307 dL_law_1309 dL_law_1310 dL_law_1311 ?_
  obtain ⟨fs_, kc_⟩ := h0.cm
  refine k_i (r_V C h hl (As := [.int (xs (Int32.toNatClampNeg (i + 1))), .int (xs (Int32.toNatClampNeg (i + 2))), .int (xs (Int32.toNatClampNeg (i + 3))), .int (xs (Int32.toNatClampNeg (i + 4)))]) (rest := []) (lm_23 l D G b0 h0 _ _ _ _) kc_ (Cn := RX11) (T := TX11) (N := 32) rfl rfl mk_X11_value w_1762 w_1763 w_1764 w_1765 ⟨Nat.le_of_ble_eq_true rfl, Nat.le_of_ble_eq_true rfl⟩ rfl (Nat.le_of_ble_eq_true rfl) ⟨law_c2 hc (Nat.le_of_ble_eq_true rfl), law_s2 hs (Nat.le_of_ble_eq_true rfl)⟩ rfl dL_law_1312) h (fun r1312 f H locs hp h => ?_)
  obtain ⟨τ, h0⟩ := hp
  refine lv_pop hx hb dL_law_1315 rfl ?_
  refine lv_goto (tgt := 2564) hx hb dL_law_1316 (by decide) ?_
  refine W.widen (k := cells + 49) (n := slots + 4900) (law_w (Nat.le_of_ble_eq_true rfl)) (law_w (Nat.le_of_ble_eq_true rfl)) ?_
  exact kk _ _ _ _ _ h0 h (lv_sub hl [0, 1, 2, 3, 4] rfl)
set_option maxRecDepth 100000 in
set_option maxHeartbeats 4000000 in
theorem law_24 {p : Program} {l : Launch} {e : Env} {s : State} {m : MethodId} {below : List Frame} {meth : Method} {c : Code} (hst : l.stackTraces = false) {b L : Nat} {xs : Nat → Int32} (C0 : lw_At p s m meth c b L xs) {D : va_G} {G : Nat → Nat} {b0 : Nat} (hb0 : s.heap.size = b0) (hE0 : hE D G b0 s s.heap) {i : Int32} (hin : ∀ k : Int32, 0 ≤ k.toInt → k.toInt ≤ 7 → vp_in (i + k) L) {τ : Nat → Nat} {f : hM} {K sh qs M : Nat → Nat} {o : Nat} (h0 : LI G τ f K sh qs M o) {H : Heap} {locs : List Loc} {ls : Array Slot} (h : hw D b0 s.heap f H locs) (hl : lv_has ls 7 [(4, .int i), (3, .ref o), (2, .ref (M 0)), (1, .ref (K 0)), (0, .ref b)]) {cells slots : Nat} (hc : cells + 49 ≤ 601024) (hs : slots + 4900 ≤ 7293034) {Q : State → Prop} (kk : ∀ (τ1 : Nat → Nat) (f1 : hM) (H1 : Heap) (locs1 : List Loc) (ls1 : Array Slot), LI G τ1 f1 K sh qs M o → hw D b0 s.heap f1 H1 locs1 → lv_has ls1 7 [(4, .int i), (3, .ref o), (2, .ref (M 0)), (1, .ref (K 0)), (0, .ref b)] → W p l e room_1 s m #[Value.ref b] below meth c H1 locs1 (cells + 49) (slots + 4900) Q (F0 m 2564 ls1 [])) : W p l e room_1 s m #[Value.ref b] below meth c H locs cells slots Q (F0 m 1319 ls []) := by
  obtain ⟨hx, hb, hr, hml, hown, hts0, hXs, hbl, hlk, hgv⟩ := id C0
  have hts : ∀ w ∈ wAll, w.before #[Value.ref b] s = true := fun w hw => hts0 w (wAll_tbl w hw)
  have C : hC p s m #[Value.ref b] meth c cL_law 7 RL D G b0 := ⟨hx, hb, hml, hown, hts, hE0, hlk⟩
  have hbA : ¬ hA b0 b := by rw [← hb0]; exact Nat.not_le.mpr hbl
  refine lv_aload_n hx hb dL_law_1319 rfl (lv_at hl 3 rfl) ?_
  refine law_arg (v := 1) hx hb hXs hbl hbA h.2.2.1 (hin 1 (by decide) (by decide)) (lv_at hl 0 rfl) (lv_at hl 4 rfl) (by decide) dL_law_1320 dL_law_1321 dL_law_1323 dL_law_1324 dL_law_1325 ?_
  refine law_arg (v := 2) hx hb hXs hbl hbA h.2.2.1 (hin 2 (by decide) (by decide)) (lv_at hl 0 rfl) (lv_at hl 4 rfl) (by decide) dL_law_1326 dL_law_1327 dL_law_1329 dL_law_1330 dL_law_1331 ?_
  refine law_arg (v := 3) hx hb hXs hbl hbA h.2.2.1 (hin 3 (by decide) (by decide)) (lv_at hl 0 rfl) (lv_at hl 4 rfl) (by decide) dL_law_1332 dL_law_1333 dL_law_1335 dL_law_1336 dL_law_1337 ?_
  refine law_arg (v := 4) hx hb hXs hbl hbA h.2.2.1 (hin 4 (by decide) (by decide)) (lv_at hl 0 rfl) (lv_at hl 4 rfl) (by decide) dL_law_1338 dL_law_1339 dL_law_1341 dL_law_1342 dL_law_1343 ?_
  refine law_arg (v := 5) hx hb hXs hbl hbA h.2.2.1 (hin 5 (by decide) (by decide)) (lv_at hl 0 rfl) (lv_at hl 4 rfl) (by decide) dL_law_1344 dL_law_1345 dL_law_1347 dL_law_1348 dL_law_1349 ?_
  refine lv_aload_n hx hb dL_law_1350 rfl (lv_at hl 4 rfl) ?_
  refine lv_iload hx hb dL_law_1351 (lv_at hl 0 rfl) ?_
  refine lv_bipush (v := 6) hx hb dL_law_1353 (by decide) ?_
  refine lv_iadd hx hb dL_law_1355 ?_
  refine va_sld hx hb hXs hbl hbA h.2.2.1 (hin 6 (by decide) (by decide)) dL_law_1356 ?_
  obtain ⟨fs_, kc_⟩ := h0.cx
  refine k_i (r_V C h hl (As := [.int (xs (Int32.toNatClampNeg (i + 1))), .int (xs (Int32.toNatClampNeg (i + 2))), .int (xs (Int32.toNatClampNeg (i + 3))), .int (xs (Int32.toNatClampNeg (i + 4))), .int (xs (Int32.toNatClampNeg (i + 5))), .int (xs (Int32.toNatClampNeg (i + 6)))]) (rest := []) (lx_24 l D G b0 h0 _ _ _ _ _ _) kc_ (Cn := RX10) (T := TX10) (N := 10) rfl rfl mk_X10_walk w_860 w_861 w_862 w_863 ⟨Nat.le_of_ble_eq_true rfl, Nat.le_of_ble_eq_true rfl⟩ rfl (Nat.le_of_ble_eq_true rfl) ⟨law_c1 hc (Nat.le_of_ble_eq_true rfl), law_s1 hs (Nat.le_of_ble_eq_true rfl)⟩ rfl dL_law_1357) h (fun r1357 f H locs hp h => ?_)
  obtain ⟨τ, h0⟩ := hp
  refine lv_pop hx hb dL_law_1360 rfl ?_
  refine lv_aload_n hx hb dL_law_1361 rfl (lv_at hl 2 rfl) ?_
  refine law_arg (v := 1) hx hb hXs hbl hbA h.2.2.1 (hin 1 (by decide) (by decide)) (lv_at hl 0 rfl) (lv_at hl 4 rfl) (by decide) dL_law_1362 dL_law_1363 dL_law_1365 dL_law_1366 dL_law_1367 ?_
  refine law_arg (v := 2) hx hb hXs hbl hbA h.2.2.1 (hin 2 (by decide) (by decide)) (lv_at hl 0 rfl) (lv_at hl 4 rfl) (by decide) dL_law_1368 dL_law_1369 dL_law_1371 dL_law_1372 dL_law_1373 ?_
  refine law_arg (v := 3) hx hb hXs hbl hbA h.2.2.1 (hin 3 (by decide) (by decide)) (lv_at hl 0 rfl) (lv_at hl 4 rfl) (by decide) dL_law_1374 dL_law_1375 dL_law_1377 dL_law_1378 dL_law_1379 ?_
  refine law_arg (v := 4) hx hb hXs hbl hbA h.2.2.1 (hin 4 (by decide) (by decide)) (lv_at hl 0 rfl) (lv_at hl 4 rfl) (by decide) dL_law_1380 dL_law_1381 dL_law_1383 dL_law_1384 dL_law_1385 ?_
  refine law_arg (v := 5) hx hb hXs hbl hbA h.2.2.1 (hin 5 (by decide) (by decide)) (lv_at hl 0 rfl) (lv_at hl 4 rfl) (by decide) dL_law_1386 dL_law_1387 dL_law_1389 dL_law_1390 dL_law_1391 ?_
  refine lv_aload_n hx hb dL_law_1392 rfl (lv_at hl 4 rfl) ?_
  refine lv_iload hx hb dL_law_1393 (lv_at hl 0 rfl) ?_
  refine lv_bipush (v := 6) hx hb dL_law_1395 (by decide) ?_
  refine lv_iadd hx hb dL_law_1397 ?_
  refine va_sld hx hb hXs hbl hbA h.2.2.1 (hin 6 (by decide) (by decide)) dL_law_1398 ?_
  obtain ⟨fs_, kc_⟩ := h0.cm
  refine k_i (r_V C h hl (As := [.int (xs (Int32.toNatClampNeg (i + 1))), .int (xs (Int32.toNatClampNeg (i + 2))), .int (xs (Int32.toNatClampNeg (i + 3))), .int (xs (Int32.toNatClampNeg (i + 4))), .int (xs (Int32.toNatClampNeg (i + 5))), .int (xs (Int32.toNatClampNeg (i + 6)))]) (rest := []) (lm_24 l D G b0 h0 _ _ _ _ _ _) kc_ (Cn := RX11) (T := TX11) (N := 32) rfl rfl mk_X11_walk w_1816 w_1817 w_1818 w_1819 ⟨Nat.le_of_ble_eq_true rfl, Nat.le_of_ble_eq_true rfl⟩ rfl (Nat.le_of_ble_eq_true rfl) ⟨law_c2 hc (Nat.le_of_ble_eq_true rfl), law_s2 hs (Nat.le_of_ble_eq_true rfl)⟩ rfl dL_law_1399) h (fun r1399 f H locs hp h => ?_)
  obtain ⟨τ, h0⟩ := hp
  refine lv_pop hx hb dL_law_1402 rfl ?_
  refine lv_goto (tgt := 2564) hx hb dL_law_1403 (by decide) ?_
  refine W.widen (k := cells + 49) (n := slots + 4900) (law_w (Nat.le_of_ble_eq_true rfl)) (law_w (Nat.le_of_ble_eq_true rfl)) ?_
  exact kk _ _ _ _ _ h0 h (lv_sub hl [0, 1, 2, 3, 4] rfl)
set_option maxRecDepth 100000 in
set_option maxHeartbeats 4000000 in
theorem law_25 {p : Program} {l : Launch} {e : Env} {s : State} {m : MethodId} {below : List Frame} {meth : Method} {c : Code} (hst : l.stackTraces = false) {b L : Nat} {xs : Nat → Int32} (C0 : lw_At p s m meth c b L xs) {D : va_G} {G : Nat → Nat} {b0 : Nat} (hb0 : s.heap.size = b0) (hE0 : hE D G b0 s s.heap) {i : Int32} (hin : ∀ k : Int32, 0 ≤ k.toInt → k.toInt ≤ 7 → vp_in (i + k) L) {τ : Nat → Nat} {f : hM} {K sh qs M : Nat → Nat} {o : Nat} (h0 : LI G τ f K sh qs M o) {H : Heap} {locs : List Loc} {ls : Array Slot} (h : hw D b0 s.heap f H locs) (hl : lv_has ls 7 [(4, .int i), (3, .ref o), (2, .ref (M 0)), (1, .ref (K 0)), (0, .ref b)]) {cells slots : Nat} (hc : cells + 49 ≤ 601024) (hs : slots + 4900 ≤ 7293034) {Q : State → Prop} (kk : ∀ (τ1 : Nat → Nat) (f1 : hM) (H1 : Heap) (locs1 : List Loc) (ls1 : Array Slot), LI G τ1 f1 K sh qs M o → hw D b0 s.heap f1 H1 locs1 → lv_has ls1 7 [(4, .int i), (3, .ref o), (2, .ref (M 0)), (1, .ref (K 0)), (0, .ref b)] → W p l e room_1 s m #[Value.ref b] below meth c H1 locs1 (cells + 49) (slots + 4900) Q (F0 m 2564 ls1 [])) : W p l e room_1 s m #[Value.ref b] below meth c H locs cells slots Q (F0 m 1406 ls []) := by
  obtain ⟨hx, hb, hr, hml, hown, hts0, hXs, hbl, hlk, hgv⟩ := id C0
  have hts : ∀ w ∈ wAll, w.before #[Value.ref b] s = true := fun w hw => hts0 w (wAll_tbl w hw)
  have C : hC p s m #[Value.ref b] meth c cL_law 7 RL D G b0 := ⟨hx, hb, hml, hown, hts, hE0, hlk⟩
  have hbA : ¬ hA b0 b := by rw [← hb0]; exact Nat.not_le.mpr hbl
  refine lv_aload_n hx hb dL_law_1406 rfl (lv_at hl 3 rfl) ?_
  refine law_arg (v := 1) hx hb hXs hbl hbA h.2.2.1 (hin 1 (by decide) (by decide)) (lv_at hl 0 rfl) (lv_at hl 4 rfl) (by decide) dL_law_1407 dL_law_1408 dL_law_1410 dL_law_1411 dL_law_1412 ?_
  refine law_arg (v := 2) hx hb hXs hbl hbA h.2.2.1 (hin 2 (by decide) (by decide)) (lv_at hl 0 rfl) (lv_at hl 4 rfl) (by decide) dL_law_1413 dL_law_1414 dL_law_1416 dL_law_1417 dL_law_1418 ?_
  refine law_arg (v := 3) hx hb hXs hbl hbA h.2.2.1 (hin 3 (by decide) (by decide)) (lv_at hl 0 rfl) (lv_at hl 4 rfl) (by decide) dL_law_1419 dL_law_1420 dL_law_1422 dL_law_1423 dL_law_1424 ?_
  refine law_arg (v := 4) hx hb hXs hbl hbA h.2.2.1 (hin 4 (by decide) (by decide)) (lv_at hl 0 rfl) (lv_at hl 4 rfl) (by decide) dL_law_1425 dL_law_1426 dL_law_1428 dL_law_1429 dL_law_1430 ?_
  refine law_arg (v := 5) hx hb hXs hbl hbA h.2.2.1 (hin 5 (by decide) (by decide)) (lv_at hl 0 rfl) (lv_at hl 4 rfl) (by decide) dL_law_1431 dL_law_1432 dL_law_1434 dL_law_1435 dL_law_1436 ?_
  refine lv_i2l (v := Int32.toInt64 (xs (Int32.toNatClampNeg (i + 5)))) hx hb dL_law_1437 rfl ?_
  refine lv_bipush (v := 32) hx hb dL_law_1438 (by decide) ?_
  refine lv_lshl (v := (Int32.toInt64 (xs (Int32.toNatClampNeg (i + 5)))) <<< (Int32.toInt64 32 &&& 63)) hx hb dL_law_1440 rfl ?_
  refine lv_aload_n hx hb dL_law_1441 rfl (lv_at hl 4 rfl) ?_
  refine lv_iload hx hb dL_law_1442 (lv_at hl 0 rfl) ?_
  refine lv_bipush (v := 6) hx hb dL_law_1444 (by decide) ?_
  refine lv_iadd hx hb dL_law_1446 ?_
  refine va_sld hx hb hXs hbl hbA h.2.2.1 (hin 6 (by decide) (by decide)) dL_law_1447 ?_
  refine lv_i2l (v := Int32.toInt64 (xs (Int32.toNatClampNeg (i + 6)))) hx hb dL_law_1448 rfl ?_
  refine lv_ldc2 (v := 4294967295) hx hb hown (hts _ w_2058) dL_law_1449 ?_
  refine lv_land hx hb dL_law_1452 ?_
  refine lv_lor hx hb dL_law_1453 ?_
  refine lv_aload_n hx hb dL_law_1454 rfl (lv_at hl 4 rfl) ?_
  refine lv_iload hx hb dL_law_1455 (lv_at hl 0 rfl) ?_
  refine lv_bipush (v := 7) hx hb dL_law_1457 (by decide) ?_
  refine lv_iadd hx hb dL_law_1459 ?_
  refine va_sld hx hb hXs hbl hbA h.2.2.1 (hin 7 (by decide) (by decide)) dL_law_1460 ?_
  obtain ⟨fs_, kc_⟩ := h0.cx
  refine k_i (r_V C h hl (As := [.int (xs (Int32.toNatClampNeg (i + 1))), .int (xs (Int32.toNatClampNeg (i + 2))), .int (xs (Int32.toNatClampNeg (i + 3))), .int (xs (Int32.toNatClampNeg (i + 4))), .long (((Int32.toInt64 (xs (Int32.toNatClampNeg (i + 5)))) <<< (Int32.toInt64 32 &&& 63)) ||| ((Int32.toInt64 (xs (Int32.toNatClampNeg (i + 6)))) &&& 4294967295)), .int (xs (Int32.toNatClampNeg (i + 7)))]) (rest := []) (lx_25 l D G b0 h0 _ _ _ _ _ _) kc_ (Cn := RX10) (T := TX10) (N := 10) rfl rfl mk_X10_drawn w_890 w_891 w_892 w_893 ⟨Nat.le_of_ble_eq_true rfl, Nat.le_of_ble_eq_true rfl⟩ rfl (Nat.le_of_ble_eq_true rfl) ⟨law_c1 hc (Nat.le_of_ble_eq_true rfl), law_s1 hs (Nat.le_of_ble_eq_true rfl)⟩ rfl dL_law_1461) h (fun r1461 f H locs hp h => ?_)
  obtain ⟨τ, h0⟩ := hp
  refine lv_pop hx hb dL_law_1464 rfl ?_
  refine lv_aload_n hx hb dL_law_1465 rfl (lv_at hl 2 rfl) ?_
  refine law_arg (v := 1) hx hb hXs hbl hbA h.2.2.1 (hin 1 (by decide) (by decide)) (lv_at hl 0 rfl) (lv_at hl 4 rfl) (by decide) dL_law_1466 dL_law_1467 dL_law_1469 dL_law_1470 dL_law_1471 ?_
  refine law_arg (v := 2) hx hb hXs hbl hbA h.2.2.1 (hin 2 (by decide) (by decide)) (lv_at hl 0 rfl) (lv_at hl 4 rfl) (by decide) dL_law_1472 dL_law_1473 dL_law_1475 dL_law_1476 dL_law_1477 ?_
  refine law_arg (v := 3) hx hb hXs hbl hbA h.2.2.1 (hin 3 (by decide) (by decide)) (lv_at hl 0 rfl) (lv_at hl 4 rfl) (by decide) dL_law_1478 dL_law_1479 dL_law_1481 dL_law_1482 dL_law_1483 ?_
  refine law_arg (v := 4) hx hb hXs hbl hbA h.2.2.1 (hin 4 (by decide) (by decide)) (lv_at hl 0 rfl) (lv_at hl 4 rfl) (by decide) dL_law_1484 dL_law_1485 dL_law_1487 dL_law_1488 dL_law_1489 ?_
  refine law_arg (v := 5) hx hb hXs hbl hbA h.2.2.1 (hin 5 (by decide) (by decide)) (lv_at hl 0 rfl) (lv_at hl 4 rfl) (by decide) dL_law_1490 dL_law_1491 dL_law_1493 dL_law_1494 dL_law_1495 ?_
  refine lv_i2l (v := Int32.toInt64 (xs (Int32.toNatClampNeg (i + 5)))) hx hb dL_law_1496 rfl ?_
  refine lv_bipush (v := 32) hx hb dL_law_1497 (by decide) ?_
  refine lv_lshl (v := (Int32.toInt64 (xs (Int32.toNatClampNeg (i + 5)))) <<< (Int32.toInt64 32 &&& 63)) hx hb dL_law_1499 rfl ?_
  refine lv_aload_n hx hb dL_law_1500 rfl (lv_at hl 4 rfl) ?_
  refine lv_iload hx hb dL_law_1501 (lv_at hl 0 rfl) ?_
  refine lv_bipush (v := 6) hx hb dL_law_1503 (by decide) ?_
  refine lv_iadd hx hb dL_law_1505 ?_
  refine va_sld hx hb hXs hbl hbA h.2.2.1 (hin 6 (by decide) (by decide)) dL_law_1506 ?_
  refine lv_i2l (v := Int32.toInt64 (xs (Int32.toNatClampNeg (i + 6)))) hx hb dL_law_1507 rfl ?_
  refine lv_ldc2 (v := 4294967295) hx hb hown (hts _ w_2058) dL_law_1508 ?_
  refine lv_land hx hb dL_law_1511 ?_
  refine lv_lor hx hb dL_law_1512 ?_
  refine lv_aload_n hx hb dL_law_1513 rfl (lv_at hl 4 rfl) ?_
  refine lv_iload hx hb dL_law_1514 (lv_at hl 0 rfl) ?_
  refine lv_bipush (v := 7) hx hb dL_law_1516 (by decide) ?_
  refine lv_iadd hx hb dL_law_1518 ?_
  refine va_sld hx hb hXs hbl hbA h.2.2.1 (hin 7 (by decide) (by decide)) dL_law_1519 ?_
  obtain ⟨fs_, kc_⟩ := h0.cm
  refine k_i (r_V C h hl (As := [.int (xs (Int32.toNatClampNeg (i + 1))), .int (xs (Int32.toNatClampNeg (i + 2))), .int (xs (Int32.toNatClampNeg (i + 3))), .int (xs (Int32.toNatClampNeg (i + 4))), .long (((Int32.toInt64 (xs (Int32.toNatClampNeg (i + 5)))) <<< (Int32.toInt64 32 &&& 63)) ||| ((Int32.toInt64 (xs (Int32.toNatClampNeg (i + 6)))) &&& 4294967295)), .int (xs (Int32.toNatClampNeg (i + 7)))]) (rest := []) (lm_25 l D G b0 h0 _ _ _ _ _ _) kc_ (Cn := RX11) (T := TX11) (N := 32) rfl rfl mk_X11_drawn w_1836 w_1837 w_1838 w_1839 ⟨Nat.le_of_ble_eq_true rfl, Nat.le_of_ble_eq_true rfl⟩ rfl (Nat.le_of_ble_eq_true rfl) ⟨law_c2 hc (Nat.le_of_ble_eq_true rfl), law_s2 hs (Nat.le_of_ble_eq_true rfl)⟩ rfl dL_law_1520) h (fun r1520 f H locs hp h => ?_)
  obtain ⟨τ, h0⟩ := hp
  refine lv_pop hx hb dL_law_1523 rfl ?_
  refine lv_goto (tgt := 2564) hx hb dL_law_1524 (by decide) ?_
  refine W.widen (k := cells + 49) (n := slots + 4900) (law_w (Nat.le_of_ble_eq_true rfl)) (law_w (Nat.le_of_ble_eq_true rfl)) ?_
  exact kk _ _ _ _ _ h0 h (lv_sub hl [0, 1, 2, 3, 4] rfl)
set_option maxRecDepth 100000 in
set_option maxHeartbeats 4000000 in
theorem law_26 {p : Program} {l : Launch} {e : Env} {s : State} {m : MethodId} {below : List Frame} {meth : Method} {c : Code} (hst : l.stackTraces = false) {b L : Nat} {xs : Nat → Int32} (C0 : lw_At p s m meth c b L xs) {D : va_G} {G : Nat → Nat} {b0 : Nat} (hb0 : s.heap.size = b0) (hE0 : hE D G b0 s s.heap) {i : Int32} (hin : ∀ k : Int32, 0 ≤ k.toInt → k.toInt ≤ 7 → vp_in (i + k) L) {τ : Nat → Nat} {f : hM} {K sh qs M : Nat → Nat} {o : Nat} (h0 : LI G τ f K sh qs M o) {H : Heap} {locs : List Loc} {ls : Array Slot} (h : hw D b0 s.heap f H locs) (hl : lv_has ls 7 [(4, .int i), (3, .ref o), (2, .ref (M 0)), (1, .ref (K 0)), (0, .ref b)]) {cells slots : Nat} (hc : cells + 49 ≤ 601024) (hs : slots + 4900 ≤ 7293034) {Q : State → Prop} (kk : ∀ (τ1 : Nat → Nat) (f1 : hM) (H1 : Heap) (locs1 : List Loc) (ls1 : Array Slot), LI G τ1 f1 K sh qs M o → hw D b0 s.heap f1 H1 locs1 → lv_has ls1 7 [(4, .int i), (3, .ref o), (2, .ref (M 0)), (1, .ref (K 0)), (0, .ref b)] → W p l e room_1 s m #[Value.ref b] below meth c H1 locs1 (cells + 49) (slots + 4900) Q (F0 m 2564 ls1 [])) : W p l e room_1 s m #[Value.ref b] below meth c H locs cells slots Q (F0 m 1527 ls []) := by
  obtain ⟨hx, hb, hr, hml, hown, hts0, hXs, hbl, hlk, hgv⟩ := id C0
  have hts : ∀ w ∈ wAll, w.before #[Value.ref b] s = true := fun w hw => hts0 w (wAll_tbl w hw)
  have C : hC p s m #[Value.ref b] meth c cL_law 7 RL D G b0 := ⟨hx, hb, hml, hown, hts, hE0, hlk⟩
  have hbA : ¬ hA b0 b := by rw [← hb0]; exact Nat.not_le.mpr hbl
  refine lv_aload_n hx hb dL_law_1527 rfl (lv_at hl 3 rfl) ?_
  refine law_arg (v := 1) hx hb hXs hbl hbA h.2.2.1 (hin 1 (by decide) (by decide)) (lv_at hl 0 rfl) (lv_at hl 4 rfl) (by decide) dL_law_1528 dL_law_1529 dL_law_1531 dL_law_1532 dL_law_1533 ?_
  refine law_arg (v := 2) hx hb hXs hbl hbA h.2.2.1 (hin 2 (by decide) (by decide)) (lv_at hl 0 rfl) (lv_at hl 4 rfl) (by decide) dL_law_1534 dL_law_1535 dL_law_1537 dL_law_1538 dL_law_1539 ?_
  refine law_arg (v := 3) hx hb hXs hbl hbA h.2.2.1 (hin 3 (by decide) (by decide)) (lv_at hl 0 rfl) (lv_at hl 4 rfl) (by decide) dL_law_1540 dL_law_1541 dL_law_1543 dL_law_1544 dL_law_1545 ?_
  obtain ⟨fs_, kc_⟩ := h0.cx
  refine k_i (r_V C h hl (As := [.int (xs (Int32.toNatClampNeg (i + 1))), .int (xs (Int32.toNatClampNeg (i + 2))), .int (xs (Int32.toNatClampNeg (i + 3)))]) (rest := []) (lx_26 l D G b0 h0 _ _ _) kc_ (Cn := RX10) (T := TX10) (N := 10) rfl rfl mk_X10_peak w_896 w_897 w_898 w_899 ⟨Nat.le_of_ble_eq_true rfl, Nat.le_of_ble_eq_true rfl⟩ rfl (Nat.le_of_ble_eq_true rfl) ⟨law_c1 hc (Nat.le_of_ble_eq_true rfl), law_s1 hs (Nat.le_of_ble_eq_true rfl)⟩ rfl dL_law_1546) h (fun r1546 f H locs hp h => ?_)
  obtain ⟨τ, h0⟩ := hp
  refine lv_pop hx hb dL_law_1549 rfl ?_
  refine lv_aload_n hx hb dL_law_1550 rfl (lv_at hl 2 rfl) ?_
  refine law_arg (v := 1) hx hb hXs hbl hbA h.2.2.1 (hin 1 (by decide) (by decide)) (lv_at hl 0 rfl) (lv_at hl 4 rfl) (by decide) dL_law_1551 dL_law_1552 dL_law_1554 dL_law_1555 dL_law_1556 ?_
  refine law_arg (v := 2) hx hb hXs hbl hbA h.2.2.1 (hin 2 (by decide) (by decide)) (lv_at hl 0 rfl) (lv_at hl 4 rfl) (by decide) dL_law_1557 dL_law_1558 dL_law_1560 dL_law_1561 dL_law_1562 ?_
  refine law_arg (v := 3) hx hb hXs hbl hbA h.2.2.1 (hin 3 (by decide) (by decide)) (lv_at hl 0 rfl) (lv_at hl 4 rfl) (by decide) dL_law_1563 dL_law_1564 dL_law_1566 dL_law_1567 dL_law_1568 ?_
  obtain ⟨fs_, kc_⟩ := h0.cm
  refine k_i (r_V C h hl (As := [.int (xs (Int32.toNatClampNeg (i + 1))), .int (xs (Int32.toNatClampNeg (i + 2))), .int (xs (Int32.toNatClampNeg (i + 3)))]) (rest := []) (lm_26 l D G b0 h0 _ _ _) kc_ (Cn := RX11) (T := TX11) (N := 32) rfl rfl mk_X11_peak w_1842 w_1843 w_1844 w_1845 ⟨Nat.le_of_ble_eq_true rfl, Nat.le_of_ble_eq_true rfl⟩ rfl (Nat.le_of_ble_eq_true rfl) ⟨law_c2 hc (Nat.le_of_ble_eq_true rfl), law_s2 hs (Nat.le_of_ble_eq_true rfl)⟩ rfl dL_law_1569) h (fun r1569 f H locs hp h => ?_)
  obtain ⟨τ, h0⟩ := hp
  refine lv_pop hx hb dL_law_1572 rfl ?_
  refine lv_goto (tgt := 2564) hx hb dL_law_1573 (by decide) ?_
  refine W.widen (k := cells + 49) (n := slots + 4900) (law_w (Nat.le_of_ble_eq_true rfl)) (law_w (Nat.le_of_ble_eq_true rfl)) ?_
  exact kk _ _ _ _ _ h0 h (lv_sub hl [0, 1, 2, 3, 4] rfl)
set_option maxRecDepth 100000 in
set_option maxHeartbeats 4000000 in
theorem law_27 {p : Program} {l : Launch} {e : Env} {s : State} {m : MethodId} {below : List Frame} {meth : Method} {c : Code} (hst : l.stackTraces = false) {b L : Nat} {xs : Nat → Int32} (C0 : lw_At p s m meth c b L xs) {D : va_G} {G : Nat → Nat} {b0 : Nat} (hb0 : s.heap.size = b0) (hE0 : hE D G b0 s s.heap) {i : Int32} (hin : ∀ k : Int32, 0 ≤ k.toInt → k.toInt ≤ 7 → vp_in (i + k) L) {τ : Nat → Nat} {f : hM} {K sh qs M : Nat → Nat} {o : Nat} (h0 : LI G τ f K sh qs M o) {H : Heap} {locs : List Loc} {ls : Array Slot} (h : hw D b0 s.heap f H locs) (hl : lv_has ls 7 [(4, .int i), (3, .ref o), (2, .ref (M 0)), (1, .ref (K 0)), (0, .ref b)]) {cells slots : Nat} (hc : cells + 49 ≤ 601024) (hs : slots + 4900 ≤ 7293034) {Q : State → Prop} (kk : ∀ (τ1 : Nat → Nat) (f1 : hM) (H1 : Heap) (locs1 : List Loc) (ls1 : Array Slot), LI G τ1 f1 K sh qs M o → hw D b0 s.heap f1 H1 locs1 → lv_has ls1 7 [(4, .int i), (3, .ref o), (2, .ref (M 0)), (1, .ref (K 0)), (0, .ref b)] → W p l e room_1 s m #[Value.ref b] below meth c H1 locs1 (cells + 49) (slots + 4900) Q (F0 m 2564 ls1 [])) : W p l e room_1 s m #[Value.ref b] below meth c H locs cells slots Q (F0 m 1576 ls []) := by
  obtain ⟨hx, hb, hr, hml, hown, hts0, hXs, hbl, hlk, hgv⟩ := id C0
  have hts : ∀ w ∈ wAll, w.before #[Value.ref b] s = true := fun w hw => hts0 w (wAll_tbl w hw)
  have C : hC p s m #[Value.ref b] meth c cL_law 7 RL D G b0 := ⟨hx, hb, hml, hown, hts, hE0, hlk⟩
  have hbA : ¬ hA b0 b := by rw [← hb0]; exact Nat.not_le.mpr hbl
  refine lv_aload_n hx hb dL_law_1576 rfl (lv_at hl 3 rfl) ?_
  refine law_arg (v := 1) hx hb hXs hbl hbA h.2.2.1 (hin 1 (by decide) (by decide)) (lv_at hl 0 rfl) (lv_at hl 4 rfl) (by decide) dL_law_1577 dL_law_1578 dL_law_1580 dL_law_1581 dL_law_1582 ?_
  refine law_arg (v := 2) hx hb hXs hbl hbA h.2.2.1 (hin 2 (by decide) (by decide)) (lv_at hl 0 rfl) (lv_at hl 4 rfl) (by decide) dL_law_1583 dL_law_1584 dL_law_1586 dL_law_1587 dL_law_1588 ?_
  obtain ⟨fs_, kc_⟩ := h0.cx
  refine k_i (r_V C h hl (As := [.int (xs (Int32.toNatClampNeg (i + 1))), .int (xs (Int32.toNatClampNeg (i + 2)))]) (rest := []) (lx_27 l D G b0 h0 _ _) kc_ (Cn := RX10) (T := TX10) (N := 10) rfl rfl mk_X10_points w_905 w_906 w_907 w_908 ⟨Nat.le_of_ble_eq_true rfl, Nat.le_of_ble_eq_true rfl⟩ rfl (Nat.le_of_ble_eq_true rfl) ⟨law_c1 hc (Nat.le_of_ble_eq_true rfl), law_s1 hs (Nat.le_of_ble_eq_true rfl)⟩ rfl dL_law_1589) h (fun r1589 f H locs hp h => ?_)
  obtain ⟨τ, h0⟩ := hp
  refine lv_pop hx hb dL_law_1592 rfl ?_
  refine lv_aload_n hx hb dL_law_1593 rfl (lv_at hl 2 rfl) ?_
  refine law_arg (v := 1) hx hb hXs hbl hbA h.2.2.1 (hin 1 (by decide) (by decide)) (lv_at hl 0 rfl) (lv_at hl 4 rfl) (by decide) dL_law_1594 dL_law_1595 dL_law_1597 dL_law_1598 dL_law_1599 ?_
  refine law_arg (v := 2) hx hb hXs hbl hbA h.2.2.1 (hin 2 (by decide) (by decide)) (lv_at hl 0 rfl) (lv_at hl 4 rfl) (by decide) dL_law_1600 dL_law_1601 dL_law_1603 dL_law_1604 dL_law_1605 ?_
  obtain ⟨fs_, kc_⟩ := h0.cm
  refine k_i (r_V C h hl (As := [.int (xs (Int32.toNatClampNeg (i + 1))), .int (xs (Int32.toNatClampNeg (i + 2)))]) (rest := []) (lm_27 l D G b0 h0 _ _) kc_ (Cn := RX11) (T := TX11) (N := 32) rfl rfl mk_X11_points w_1846 w_1847 w_1848 w_1849 ⟨Nat.le_of_ble_eq_true rfl, Nat.le_of_ble_eq_true rfl⟩ rfl (Nat.le_of_ble_eq_true rfl) ⟨law_c2 hc (Nat.le_of_ble_eq_true rfl), law_s2 hs (Nat.le_of_ble_eq_true rfl)⟩ rfl dL_law_1606) h (fun r1606 f H locs hp h => ?_)
  obtain ⟨τ, h0⟩ := hp
  refine lv_pop hx hb dL_law_1609 rfl ?_
  refine lv_goto (tgt := 2564) hx hb dL_law_1610 (by decide) ?_
  refine W.widen (k := cells + 49) (n := slots + 4900) (law_w (Nat.le_of_ble_eq_true rfl)) (law_w (Nat.le_of_ble_eq_true rfl)) ?_
  exact kk _ _ _ _ _ h0 h (lv_sub hl [0, 1, 2, 3, 4] rfl)
set_option maxRecDepth 100000 in
set_option maxHeartbeats 4000000 in
theorem law_28 {p : Program} {l : Launch} {e : Env} {s : State} {m : MethodId} {below : List Frame} {meth : Method} {c : Code} (hst : l.stackTraces = false) {b L : Nat} {xs : Nat → Int32} (C0 : lw_At p s m meth c b L xs) {D : va_G} {G : Nat → Nat} {b0 : Nat} (hb0 : s.heap.size = b0) (hE0 : hE D G b0 s s.heap) {i : Int32} (hin : ∀ k : Int32, 0 ≤ k.toInt → k.toInt ≤ 7 → vp_in (i + k) L) {τ : Nat → Nat} {f : hM} {K sh qs M : Nat → Nat} {o : Nat} (h0 : LI G τ f K sh qs M o) {H : Heap} {locs : List Loc} {ls : Array Slot} (h : hw D b0 s.heap f H locs) (hl : lv_has ls 7 [(4, .int i), (3, .ref o), (2, .ref (M 0)), (1, .ref (K 0)), (0, .ref b)]) {cells slots : Nat} (hc : cells + 49 ≤ 601024) (hs : slots + 4900 ≤ 7293034) {Q : State → Prop} (kk : ∀ (τ1 : Nat → Nat) (f1 : hM) (H1 : Heap) (locs1 : List Loc) (ls1 : Array Slot), LI G τ1 f1 K sh qs M o → hw D b0 s.heap f1 H1 locs1 → lv_has ls1 7 [(4, .int i), (3, .ref o), (2, .ref (M 0)), (1, .ref (K 0)), (0, .ref b)] → W p l e room_1 s m #[Value.ref b] below meth c H1 locs1 (cells + 49) (slots + 4900) Q (F0 m 2564 ls1 [])) : W p l e room_1 s m #[Value.ref b] below meth c H locs cells slots Q (F0 m 1613 ls []) := by
  obtain ⟨hx, hb, hr, hml, hown, hts0, hXs, hbl, hlk, hgv⟩ := id C0
  have hts : ∀ w ∈ wAll, w.before #[Value.ref b] s = true := fun w hw => hts0 w (wAll_tbl w hw)
  have C : hC p s m #[Value.ref b] meth c cL_law 7 RL D G b0 := ⟨hx, hb, hml, hown, hts, hE0, hlk⟩
  have hbA : ¬ hA b0 b := by rw [← hb0]; exact Nat.not_le.mpr hbl
  refine lv_aload_n hx hb dL_law_1613 rfl (lv_at hl 3 rfl) ?_
  refine law_arg (v := 1) hx hb hXs hbl hbA h.2.2.1 (hin 1 (by decide) (by decide)) (lv_at hl 0 rfl) (lv_at hl 4 rfl) (by decide) dL_law_1614 dL_law_1615 dL_law_1617 dL_law_1618 dL_law_1619 ?_
  refine law_arg (v := 2) hx hb hXs hbl hbA h.2.2.1 (hin 2 (by decide) (by decide)) (lv_at hl 0 rfl) (lv_at hl 4 rfl) (by decide) dL_law_1620 dL_law_1621 dL_law_1623 dL_law_1624 dL_law_1625 ?_
  refine law_arg (v := 3) hx hb hXs hbl hbA h.2.2.1 (hin 3 (by decide) (by decide)) (lv_at hl 0 rfl) (lv_at hl 4 rfl) (by decide) dL_law_1626 dL_law_1627 dL_law_1629 dL_law_1630 dL_law_1631 ?_
  obtain ⟨fs_, kc_⟩ := h0.cx
  refine k_i (r_V C h hl (As := [.int (xs (Int32.toNatClampNeg (i + 1))), .int (xs (Int32.toNatClampNeg (i + 2))), .int (xs (Int32.toNatClampNeg (i + 3)))]) (rest := []) (lx_28 l D G b0 h0 _ _ _) kc_ (Cn := RX10) (T := TX10) (N := 10) rfl rfl mk_X10_fewest w_913 w_914 w_915 w_916 ⟨Nat.le_of_ble_eq_true rfl, Nat.le_of_ble_eq_true rfl⟩ rfl (Nat.le_of_ble_eq_true rfl) ⟨law_c1 hc (Nat.le_of_ble_eq_true rfl), law_s1 hs (Nat.le_of_ble_eq_true rfl)⟩ rfl dL_law_1632) h (fun r1632 f H locs hp h => ?_)
  obtain ⟨τ, h0⟩ := hp
  refine lv_pop hx hb dL_law_1635 rfl ?_
  refine lv_aload_n hx hb dL_law_1636 rfl (lv_at hl 2 rfl) ?_
  refine law_arg (v := 1) hx hb hXs hbl hbA h.2.2.1 (hin 1 (by decide) (by decide)) (lv_at hl 0 rfl) (lv_at hl 4 rfl) (by decide) dL_law_1637 dL_law_1638 dL_law_1640 dL_law_1641 dL_law_1642 ?_
  refine law_arg (v := 2) hx hb hXs hbl hbA h.2.2.1 (hin 2 (by decide) (by decide)) (lv_at hl 0 rfl) (lv_at hl 4 rfl) (by decide) dL_law_1643 dL_law_1644 dL_law_1646 dL_law_1647 dL_law_1648 ?_
  refine law_arg (v := 3) hx hb hXs hbl hbA h.2.2.1 (hin 3 (by decide) (by decide)) (lv_at hl 0 rfl) (lv_at hl 4 rfl) (by decide) dL_law_1649 dL_law_1650 dL_law_1652 dL_law_1653 dL_law_1654 ?_
  obtain ⟨fs_, kc_⟩ := h0.cm
  refine k_i (r_V C h hl (As := [.int (xs (Int32.toNatClampNeg (i + 1))), .int (xs (Int32.toNatClampNeg (i + 2))), .int (xs (Int32.toNatClampNeg (i + 3)))]) (rest := []) (lm_28 l D G b0 h0 _ _ _) kc_ (Cn := RX11) (T := TX11) (N := 32) rfl rfl mk_X11_fewest w_1850 w_1851 w_1852 w_1853 ⟨Nat.le_of_ble_eq_true rfl, Nat.le_of_ble_eq_true rfl⟩ rfl (Nat.le_of_ble_eq_true rfl) ⟨law_c2 hc (Nat.le_of_ble_eq_true rfl), law_s2 hs (Nat.le_of_ble_eq_true rfl)⟩ rfl dL_law_1655) h (fun r1655 f H locs hp h => ?_)
  obtain ⟨τ, h0⟩ := hp
  refine lv_pop hx hb dL_law_1658 rfl ?_
  refine lv_goto (tgt := 2564) hx hb dL_law_1659 (by decide) ?_
  refine W.widen (k := cells + 49) (n := slots + 4900) (law_w (Nat.le_of_ble_eq_true rfl)) (law_w (Nat.le_of_ble_eq_true rfl)) ?_
  exact kk _ _ _ _ _ h0 h (lv_sub hl [0, 1, 2, 3, 4] rfl)
set_option maxRecDepth 100000 in
set_option maxHeartbeats 4000000 in
theorem law_29 {p : Program} {l : Launch} {e : Env} {s : State} {m : MethodId} {below : List Frame} {meth : Method} {c : Code} (hst : l.stackTraces = false) {b L : Nat} {xs : Nat → Int32} (C0 : lw_At p s m meth c b L xs) {D : va_G} {G : Nat → Nat} {b0 : Nat} (hb0 : s.heap.size = b0) (hE0 : hE D G b0 s s.heap) {i : Int32} (hin : ∀ k : Int32, 0 ≤ k.toInt → k.toInt ≤ 7 → vp_in (i + k) L) {τ : Nat → Nat} {f : hM} {K sh qs M : Nat → Nat} {o : Nat} (h0 : LI G τ f K sh qs M o) {H : Heap} {locs : List Loc} {ls : Array Slot} (h : hw D b0 s.heap f H locs) (hl : lv_has ls 7 [(4, .int i), (3, .ref o), (2, .ref (M 0)), (1, .ref (K 0)), (0, .ref b)]) {cells slots : Nat} (hc : cells + 49 ≤ 601024) (hs : slots + 4900 ≤ 7293034) {Q : State → Prop} (kk : ∀ (τ1 : Nat → Nat) (f1 : hM) (H1 : Heap) (locs1 : List Loc) (ls1 : Array Slot), LI G τ1 f1 K sh qs M o → hw D b0 s.heap f1 H1 locs1 → lv_has ls1 7 [(4, .int i), (3, .ref o), (2, .ref (M 0)), (1, .ref (K 0)), (0, .ref b)] → W p l e room_1 s m #[Value.ref b] below meth c H1 locs1 (cells + 49) (slots + 4900) Q (F0 m 2564 ls1 [])) : W p l e room_1 s m #[Value.ref b] below meth c H locs cells slots Q (F0 m 1662 ls []) := by
  obtain ⟨hx, hb, hr, hml, hown, hts0, hXs, hbl, hlk, hgv⟩ := id C0
  have hts : ∀ w ∈ wAll, w.before #[Value.ref b] s = true := fun w hw => hts0 w (wAll_tbl w hw)
  have C : hC p s m #[Value.ref b] meth c cL_law 7 RL D G b0 := ⟨hx, hb, hml, hown, hts, hE0, hlk⟩
  have hbA : ¬ hA b0 b := by rw [← hb0]; exact Nat.not_le.mpr hbl
  refine lv_aload_n hx hb dL_law_1662 rfl (lv_at hl 3 rfl) ?_
  refine law_arg (v := 1) hx hb hXs hbl hbA h.2.2.1 (hin 1 (by decide) (by decide)) (lv_at hl 0 rfl) (lv_at hl 4 rfl) (by decide) dL_law_1663 dL_law_1664 dL_law_1666 dL_law_1667 dL_law_1668 ?_
  obtain ⟨fs_, kc_⟩ := h0.cx
  refine k_i (r_V C h hl (As := [.int (xs (Int32.toNatClampNeg (i + 1)))]) (rest := []) (lx_29 l D G b0 h0 _) kc_ (Cn := RX10) (T := TX10) (N := 10) rfl rfl mk_X10_period w_917 w_918 w_919 w_920 ⟨Nat.le_of_ble_eq_true rfl, Nat.le_of_ble_eq_true rfl⟩ rfl (Nat.le_of_ble_eq_true rfl) ⟨law_c1 hc (Nat.le_of_ble_eq_true rfl), law_s1 hs (Nat.le_of_ble_eq_true rfl)⟩ rfl dL_law_1669) h (fun r1669 f H locs hp h => ?_)
  obtain ⟨τ, h0⟩ := hp
  refine lv_pop hx hb dL_law_1672 rfl ?_
  refine lv_aload_n hx hb dL_law_1673 rfl (lv_at hl 2 rfl) ?_
  refine law_arg (v := 1) hx hb hXs hbl hbA h.2.2.1 (hin 1 (by decide) (by decide)) (lv_at hl 0 rfl) (lv_at hl 4 rfl) (by decide) dL_law_1674 dL_law_1675 dL_law_1677 dL_law_1678 dL_law_1679 ?_
  obtain ⟨fs_, kc_⟩ := h0.cm
  refine k_i (r_V C h hl (As := [.int (xs (Int32.toNatClampNeg (i + 1)))]) (rest := []) (lm_29 l D G b0 h0 _) kc_ (Cn := RX11) (T := TX11) (N := 32) rfl rfl mk_X11_period w_1854 w_1855 w_1856 w_1857 ⟨Nat.le_of_ble_eq_true rfl, Nat.le_of_ble_eq_true rfl⟩ rfl (Nat.le_of_ble_eq_true rfl) ⟨law_c2 hc (Nat.le_of_ble_eq_true rfl), law_s2 hs (Nat.le_of_ble_eq_true rfl)⟩ rfl dL_law_1680) h (fun r1680 f H locs hp h => ?_)
  obtain ⟨τ, h0⟩ := hp
  refine lv_pop hx hb dL_law_1683 rfl ?_
  refine lv_goto (tgt := 2564) hx hb dL_law_1684 (by decide) ?_
  refine W.widen (k := cells + 49) (n := slots + 4900) (law_w (Nat.le_of_ble_eq_true rfl)) (law_w (Nat.le_of_ble_eq_true rfl)) ?_
  exact kk _ _ _ _ _ h0 h (lv_sub hl [0, 1, 2, 3, 4] rfl)
set_option maxRecDepth 100000 in
set_option maxHeartbeats 4000000 in
theorem law_30 {p : Program} {l : Launch} {e : Env} {s : State} {m : MethodId} {below : List Frame} {meth : Method} {c : Code} (hst : l.stackTraces = false) {b L : Nat} {xs : Nat → Int32} (C0 : lw_At p s m meth c b L xs) {D : va_G} {G : Nat → Nat} {b0 : Nat} (hb0 : s.heap.size = b0) (hE0 : hE D G b0 s s.heap) {i : Int32} (hin : ∀ k : Int32, 0 ≤ k.toInt → k.toInt ≤ 7 → vp_in (i + k) L) {τ : Nat → Nat} {f : hM} {K sh qs M : Nat → Nat} {o : Nat} (h0 : LI G τ f K sh qs M o) {H : Heap} {locs : List Loc} {ls : Array Slot} (h : hw D b0 s.heap f H locs) (hl : lv_has ls 7 [(4, .int i), (3, .ref o), (2, .ref (M 0)), (1, .ref (K 0)), (0, .ref b)]) {cells slots : Nat} (hc : cells + 49 ≤ 601024) (hs : slots + 4900 ≤ 7293034) {Q : State → Prop} (kk : ∀ (τ1 : Nat → Nat) (f1 : hM) (H1 : Heap) (locs1 : List Loc) (ls1 : Array Slot), LI G τ1 f1 K sh qs M o → hw D b0 s.heap f1 H1 locs1 → lv_has ls1 7 [(4, .int i), (3, .ref o), (2, .ref (M 0)), (1, .ref (K 0)), (0, .ref b)] → W p l e room_1 s m #[Value.ref b] below meth c H1 locs1 (cells + 49) (slots + 4900) Q (F0 m 2564 ls1 [])) : W p l e room_1 s m #[Value.ref b] below meth c H locs cells slots Q (F0 m 1687 ls []) := by
  obtain ⟨hx, hb, hr, hml, hown, hts0, hXs, hbl, hlk, hgv⟩ := id C0
  have hts : ∀ w ∈ wAll, w.before #[Value.ref b] s = true := fun w hw => hts0 w (wAll_tbl w hw)
  have C : hC p s m #[Value.ref b] meth c cL_law 7 RL D G b0 := ⟨hx, hb, hml, hown, hts, hE0, hlk⟩
  have hbA : ¬ hA b0 b := by rw [← hb0]; exact Nat.not_le.mpr hbl
  refine lv_aload_n hx hb dL_law_1687 rfl (lv_at hl 3 rfl) ?_
  refine law_arg (v := 1) hx hb hXs hbl hbA h.2.2.1 (hin 1 (by decide) (by decide)) (lv_at hl 0 rfl) (lv_at hl 4 rfl) (by decide) dL_law_1688 dL_law_1689 dL_law_1691 dL_law_1692 dL_law_1693 ?_
  refine law_arg (v := 2) hx hb hXs hbl hbA h.2.2.1 (hin 2 (by decide) (by decide)) (lv_at hl 0 rfl) (lv_at hl 4 rfl) (by decide) dL_law_1694 dL_law_1695 dL_law_1697 dL_law_1698 dL_law_1699 ?_
  refine law_arg (v := 3) hx hb hXs hbl hbA h.2.2.1 (hin 3 (by decide) (by decide)) (lv_at hl 0 rfl) (lv_at hl 4 rfl) (by decide) dL_law_1700 dL_law_1701 dL_law_1703 dL_law_1704 dL_law_1705 ?_
  obtain ⟨fs_, kc_⟩ := h0.cx
  refine k_i (r_V C h hl (As := [.int (xs (Int32.toNatClampNeg (i + 1))), .int (xs (Int32.toNatClampNeg (i + 2))), .int (xs (Int32.toNatClampNeg (i + 3)))]) (rest := []) (lx_30 l D G b0 h0 _ _ _) kc_ (Cn := RX10) (T := TX10) (N := 10) rfl rfl mk_X10_meet w_924 w_925 w_926 w_927 ⟨Nat.le_of_ble_eq_true rfl, Nat.le_of_ble_eq_true rfl⟩ rfl (Nat.le_of_ble_eq_true rfl) ⟨law_c1 hc (Nat.le_of_ble_eq_true rfl), law_s1 hs (Nat.le_of_ble_eq_true rfl)⟩ rfl dL_law_1706) h (fun r1706 f H locs hp h => ?_)
  obtain ⟨τ, h0⟩ := hp
  refine lv_pop hx hb dL_law_1709 rfl ?_
  refine lv_aload_n hx hb dL_law_1710 rfl (lv_at hl 2 rfl) ?_
  refine law_arg (v := 1) hx hb hXs hbl hbA h.2.2.1 (hin 1 (by decide) (by decide)) (lv_at hl 0 rfl) (lv_at hl 4 rfl) (by decide) dL_law_1711 dL_law_1712 dL_law_1714 dL_law_1715 dL_law_1716 ?_
  refine law_arg (v := 2) hx hb hXs hbl hbA h.2.2.1 (hin 2 (by decide) (by decide)) (lv_at hl 0 rfl) (lv_at hl 4 rfl) (by decide) dL_law_1717 dL_law_1718 dL_law_1720 dL_law_1721 dL_law_1722 ?_
  refine law_arg (v := 3) hx hb hXs hbl hbA h.2.2.1 (hin 3 (by decide) (by decide)) (lv_at hl 0 rfl) (lv_at hl 4 rfl) (by decide) dL_law_1723 dL_law_1724 dL_law_1726 dL_law_1727 dL_law_1728 ?_
  obtain ⟨fs_, kc_⟩ := h0.cm
  refine k_i (r_V C h hl (As := [.int (xs (Int32.toNatClampNeg (i + 1))), .int (xs (Int32.toNatClampNeg (i + 2))), .int (xs (Int32.toNatClampNeg (i + 3)))]) (rest := []) (lm_30 l D G b0 h0 _ _ _) kc_ (Cn := RX11) (T := TX11) (N := 32) rfl rfl mk_X11_meet w_1861 w_1862 w_1863 w_1864 ⟨Nat.le_of_ble_eq_true rfl, Nat.le_of_ble_eq_true rfl⟩ rfl (Nat.le_of_ble_eq_true rfl) ⟨law_c2 hc (Nat.le_of_ble_eq_true rfl), law_s2 hs (Nat.le_of_ble_eq_true rfl)⟩ rfl dL_law_1729) h (fun r1729 f H locs hp h => ?_)
  obtain ⟨τ, h0⟩ := hp
  refine lv_pop hx hb dL_law_1732 rfl ?_
  refine lv_goto (tgt := 2564) hx hb dL_law_1733 (by decide) ?_
  refine W.widen (k := cells + 49) (n := slots + 4900) (law_w (Nat.le_of_ble_eq_true rfl)) (law_w (Nat.le_of_ble_eq_true rfl)) ?_
  exact kk _ _ _ _ _ h0 h (lv_sub hl [0, 1, 2, 3, 4] rfl)
set_option maxRecDepth 100000 in
set_option maxHeartbeats 4000000 in
theorem law_31 {p : Program} {l : Launch} {e : Env} {s : State} {m : MethodId} {below : List Frame} {meth : Method} {c : Code} (hst : l.stackTraces = false) {b L : Nat} {xs : Nat → Int32} (C0 : lw_At p s m meth c b L xs) {D : va_G} {G : Nat → Nat} {b0 : Nat} (hb0 : s.heap.size = b0) (hE0 : hE D G b0 s s.heap) {i : Int32} (hin : ∀ k : Int32, 0 ≤ k.toInt → k.toInt ≤ 7 → vp_in (i + k) L) {τ : Nat → Nat} {f : hM} {K sh qs M : Nat → Nat} {o : Nat} (h0 : LI G τ f K sh qs M o) {H : Heap} {locs : List Loc} {ls : Array Slot} (h : hw D b0 s.heap f H locs) (hl : lv_has ls 7 [(4, .int i), (3, .ref o), (2, .ref (M 0)), (1, .ref (K 0)), (0, .ref b)]) {cells slots : Nat} (hc : cells + 49 ≤ 601024) (hs : slots + 4900 ≤ 7293034) {Q : State → Prop} (kk : ∀ (τ1 : Nat → Nat) (f1 : hM) (H1 : Heap) (locs1 : List Loc) (ls1 : Array Slot), LI G τ1 f1 K sh qs M o → hw D b0 s.heap f1 H1 locs1 → lv_has ls1 7 [(4, .int i), (3, .ref o), (2, .ref (M 0)), (1, .ref (K 0)), (0, .ref b)] → W p l e room_1 s m #[Value.ref b] below meth c H1 locs1 (cells + 49) (slots + 4900) Q (F0 m 2564 ls1 [])) : W p l e room_1 s m #[Value.ref b] below meth c H locs cells slots Q (F0 m 1736 ls []) := by
  obtain ⟨hx, hb, hr, hml, hown, hts0, hXs, hbl, hlk, hgv⟩ := id C0
  have hts : ∀ w ∈ wAll, w.before #[Value.ref b] s = true := fun w hw => hts0 w (wAll_tbl w hw)
  have C : hC p s m #[Value.ref b] meth c cL_law 7 RL D G b0 := ⟨hx, hb, hml, hown, hts, hE0, hlk⟩
  have hbA : ¬ hA b0 b := by rw [← hb0]; exact Nat.not_le.mpr hbl
  refine lv_aload_n hx hb dL_law_1736 rfl (lv_at hl 3 rfl) ?_
  refine law_arg (v := 1) hx hb hXs hbl hbA h.2.2.1 (hin 1 (by decide) (by decide)) (lv_at hl 0 rfl) (lv_at hl 4 rfl) (by decide) dL_law_1737 dL_law_1738 dL_law_1740 dL_law_1741 dL_law_1742 ?_
  refine law_arg (v := 2) hx hb hXs hbl hbA h.2.2.1 (hin 2 (by decide) (by decide)) (lv_at hl 0 rfl) (lv_at hl 4 rfl) (by decide) dL_law_1743 dL_law_1744 dL_law_1746 dL_law_1747 dL_law_1748 ?_
  refine law_arg (v := 3) hx hb hXs hbl hbA h.2.2.1 (hin 3 (by decide) (by decide)) (lv_at hl 0 rfl) (lv_at hl 4 rfl) (by decide) dL_law_1749 dL_law_1750 dL_law_1752 dL_law_1753 dL_law_1754 ?_
  obtain ⟨fs_, kc_⟩ := h0.cx
  refine k_i (r_V C h hl (As := [.int (xs (Int32.toNatClampNeg (i + 1))), .int (xs (Int32.toNatClampNeg (i + 2))), .int (xs (Int32.toNatClampNeg (i + 3)))]) (rest := []) (lx_31 l D G b0 h0 _ _ _) kc_ (Cn := RX10) (T := TX10) (N := 10) rfl rfl mk_X10_kernel w_937 w_938 w_939 w_940 ⟨Nat.le_of_ble_eq_true rfl, Nat.le_of_ble_eq_true rfl⟩ rfl (Nat.le_of_ble_eq_true rfl) ⟨law_c1 hc (Nat.le_of_ble_eq_true rfl), law_s1 hs (Nat.le_of_ble_eq_true rfl)⟩ rfl dL_law_1755) h (fun r1755 f H locs hp h => ?_)
  obtain ⟨τ, h0⟩ := hp
  refine lv_pop hx hb dL_law_1758 rfl ?_
  refine lv_aload_n hx hb dL_law_1759 rfl (lv_at hl 2 rfl) ?_
  refine law_arg (v := 1) hx hb hXs hbl hbA h.2.2.1 (hin 1 (by decide) (by decide)) (lv_at hl 0 rfl) (lv_at hl 4 rfl) (by decide) dL_law_1760 dL_law_1761 dL_law_1763 dL_law_1764 dL_law_1765 ?_
  refine law_arg (v := 2) hx hb hXs hbl hbA h.2.2.1 (hin 2 (by decide) (by decide)) (lv_at hl 0 rfl) (lv_at hl 4 rfl) (by decide) dL_law_1766 dL_law_1767 dL_law_1769 dL_law_1770 dL_law_1771 ?_
  refine law_arg (v := 3) hx hb hXs hbl hbA h.2.2.1 (hin 3 (by decide) (by decide)) (lv_at hl 0 rfl) (lv_at hl 4 rfl) (by decide) dL_law_1772 dL_law_1773 dL_law_1775 dL_law_1776 dL_law_1777 ?_
  obtain ⟨fs_, kc_⟩ := h0.cm
  refine k_i (r_V C h hl (As := [.int (xs (Int32.toNatClampNeg (i + 1))), .int (xs (Int32.toNatClampNeg (i + 2))), .int (xs (Int32.toNatClampNeg (i + 3)))]) (rest := []) (lm_31 l D G b0 h0 _ _ _) kc_ (Cn := RX11) (T := TX11) (N := 32) rfl rfl mk_X11_kernel w_1865 w_1866 w_1867 w_1868 ⟨Nat.le_of_ble_eq_true rfl, Nat.le_of_ble_eq_true rfl⟩ rfl (Nat.le_of_ble_eq_true rfl) ⟨law_c2 hc (Nat.le_of_ble_eq_true rfl), law_s2 hs (Nat.le_of_ble_eq_true rfl)⟩ rfl dL_law_1778) h (fun r1778 f H locs hp h => ?_)
  obtain ⟨τ, h0⟩ := hp
  refine lv_pop hx hb dL_law_1781 rfl ?_
  refine lv_goto (tgt := 2564) hx hb dL_law_1782 (by decide) ?_
  refine W.widen (k := cells + 49) (n := slots + 4900) (law_w (Nat.le_of_ble_eq_true rfl)) (law_w (Nat.le_of_ble_eq_true rfl)) ?_
  exact kk _ _ _ _ _ h0 h (lv_sub hl [0, 1, 2, 3, 4] rfl)
set_option maxRecDepth 100000 in
set_option maxHeartbeats 4000000 in
theorem law_32 {p : Program} {l : Launch} {e : Env} {s : State} {m : MethodId} {below : List Frame} {meth : Method} {c : Code} (hst : l.stackTraces = false) {b L : Nat} {xs : Nat → Int32} (C0 : lw_At p s m meth c b L xs) {D : va_G} {G : Nat → Nat} {b0 : Nat} (hb0 : s.heap.size = b0) (hE0 : hE D G b0 s s.heap) {i : Int32} (hin : ∀ k : Int32, 0 ≤ k.toInt → k.toInt ≤ 7 → vp_in (i + k) L) {τ : Nat → Nat} {f : hM} {K sh qs M : Nat → Nat} {o : Nat} (h0 : LI G τ f K sh qs M o) {H : Heap} {locs : List Loc} {ls : Array Slot} (h : hw D b0 s.heap f H locs) (hl : lv_has ls 7 [(4, .int i), (3, .ref o), (2, .ref (M 0)), (1, .ref (K 0)), (0, .ref b)]) {cells slots : Nat} (hc : cells + 49 ≤ 601024) (hs : slots + 4900 ≤ 7293034) {Q : State → Prop} (kk : ∀ (τ1 : Nat → Nat) (f1 : hM) (H1 : Heap) (locs1 : List Loc) (ls1 : Array Slot), LI G τ1 f1 K sh qs M o → hw D b0 s.heap f1 H1 locs1 → lv_has ls1 7 [(4, .int i), (3, .ref o), (2, .ref (M 0)), (1, .ref (K 0)), (0, .ref b)] → W p l e room_1 s m #[Value.ref b] below meth c H1 locs1 (cells + 49) (slots + 4900) Q (F0 m 2564 ls1 [])) : W p l e room_1 s m #[Value.ref b] below meth c H locs cells slots Q (F0 m 1785 ls []) := by
  obtain ⟨hx, hb, hr, hml, hown, hts0, hXs, hbl, hlk, hgv⟩ := id C0
  have hts : ∀ w ∈ wAll, w.before #[Value.ref b] s = true := fun w hw => hts0 w (wAll_tbl w hw)
  have C : hC p s m #[Value.ref b] meth c cL_law 7 RL D G b0 := ⟨hx, hb, hml, hown, hts, hE0, hlk⟩
  have hbA : ¬ hA b0 b := by rw [← hb0]; exact Nat.not_le.mpr hbl
  refine lv_aload_n hx hb dL_law_1785 rfl (lv_at hl 3 rfl) ?_
  refine law_arg (v := 1) hx hb hXs hbl hbA h.2.2.1 (hin 1 (by decide) (by decide)) (lv_at hl 0 rfl) (lv_at hl 4 rfl) (by decide) dL_law_1786 dL_law_1787 dL_law_1789 dL_law_1790 dL_law_1791 ?_
  refine law_arg (v := 2) hx hb hXs hbl hbA h.2.2.1 (hin 2 (by decide) (by decide)) (lv_at hl 0 rfl) (lv_at hl 4 rfl) (by decide) dL_law_1792 dL_law_1793 dL_law_1795 dL_law_1796 dL_law_1797 ?_
  refine law_arg (v := 3) hx hb hXs hbl hbA h.2.2.1 (hin 3 (by decide) (by decide)) (lv_at hl 0 rfl) (lv_at hl 4 rfl) (by decide) dL_law_1798 dL_law_1799 dL_law_1801 dL_law_1802 dL_law_1803 ?_
  refine law_arg (v := 4) hx hb hXs hbl hbA h.2.2.1 (hin 4 (by decide) (by decide)) (lv_at hl 0 rfl) (lv_at hl 4 rfl) (by decide) dL_law_1804 dL_law_1805 dL_law_1807 dL_law_1808 dL_law_1809 ?_
  obtain ⟨fs_, kc_⟩ := h0.cx
  refine k_i (r_V C h hl (As := [.int (xs (Int32.toNatClampNeg (i + 1))), .int (xs (Int32.toNatClampNeg (i + 2))), .int (xs (Int32.toNatClampNeg (i + 3))), .int (xs (Int32.toNatClampNeg (i + 4)))]) (rest := []) (lx_32 l D G b0 h0 _ _ _ _) kc_ (Cn := RX10) (T := TX10) (N := 10) rfl rfl mk_X10_turned w_953 w_954 w_955 w_956 ⟨Nat.le_of_ble_eq_true rfl, Nat.le_of_ble_eq_true rfl⟩ rfl (Nat.le_of_ble_eq_true rfl) ⟨law_c1 hc (Nat.le_of_ble_eq_true rfl), law_s1 hs (Nat.le_of_ble_eq_true rfl)⟩ rfl dL_law_1810) h (fun r1810 f H locs hp h => ?_)
  obtain ⟨τ, h0⟩ := hp
  refine lv_pop hx hb dL_law_1813 rfl ?_
  refine lv_aload_n hx hb dL_law_1814 rfl (lv_at hl 2 rfl) ?_
  refine law_arg (v := 1) hx hb hXs hbl hbA h.2.2.1 (hin 1 (by decide) (by decide)) (lv_at hl 0 rfl) (lv_at hl 4 rfl) (by decide) dL_law_1815 dL_law_1816 dL_law_1818 dL_law_1819 dL_law_1820 ?_
  refine law_arg (v := 2) hx hb hXs hbl hbA h.2.2.1 (hin 2 (by decide) (by decide)) (lv_at hl 0 rfl) (lv_at hl 4 rfl) (by decide) dL_law_1821 dL_law_1822 dL_law_1824 dL_law_1825 dL_law_1826 ?_
  refine law_arg (v := 3) hx hb hXs hbl hbA h.2.2.1 (hin 3 (by decide) (by decide)) (lv_at hl 0 rfl) (lv_at hl 4 rfl) (by decide) dL_law_1827 dL_law_1828 dL_law_1830 dL_law_1831 dL_law_1832 ?_
  refine law_arg (v := 4) hx hb hXs hbl hbA h.2.2.1 (hin 4 (by decide) (by decide)) (lv_at hl 0 rfl) (lv_at hl 4 rfl) (by decide) dL_law_1833 dL_law_1834 dL_law_1836 dL_law_1837 dL_law_1838 ?_
  obtain ⟨fs_, kc_⟩ := h0.cm
  refine k_i (r_V C h hl (As := [.int (xs (Int32.toNatClampNeg (i + 1))), .int (xs (Int32.toNatClampNeg (i + 2))), .int (xs (Int32.toNatClampNeg (i + 3))), .int (xs (Int32.toNatClampNeg (i + 4)))]) (rest := []) (lm_32 l D G b0 h0 _ _ _ _) kc_ (Cn := RX11) (T := TX11) (N := 32) rfl rfl mk_X11_turned w_1875 w_1876 w_1877 w_1878 ⟨Nat.le_of_ble_eq_true rfl, Nat.le_of_ble_eq_true rfl⟩ rfl (Nat.le_of_ble_eq_true rfl) ⟨law_c2 hc (Nat.le_of_ble_eq_true rfl), law_s2 hs (Nat.le_of_ble_eq_true rfl)⟩ rfl dL_law_1839) h (fun r1839 f H locs hp h => ?_)
  obtain ⟨τ, h0⟩ := hp
  refine lv_pop hx hb dL_law_1842 rfl ?_
  refine lv_goto (tgt := 2564) hx hb dL_law_1843 (by decide) ?_
  refine W.widen (k := cells + 49) (n := slots + 4900) (law_w (Nat.le_of_ble_eq_true rfl)) (law_w (Nat.le_of_ble_eq_true rfl)) ?_
  exact kk _ _ _ _ _ h0 h (lv_sub hl [0, 1, 2, 3, 4] rfl)
set_option maxRecDepth 100000 in
set_option maxHeartbeats 4000000 in
theorem law_33 {p : Program} {l : Launch} {e : Env} {s : State} {m : MethodId} {below : List Frame} {meth : Method} {c : Code} (hst : l.stackTraces = false) {b L : Nat} {xs : Nat → Int32} (C0 : lw_At p s m meth c b L xs) {D : va_G} {G : Nat → Nat} {b0 : Nat} (hb0 : s.heap.size = b0) (hE0 : hE D G b0 s s.heap) {i : Int32} (hin : ∀ k : Int32, 0 ≤ k.toInt → k.toInt ≤ 7 → vp_in (i + k) L) {τ : Nat → Nat} {f : hM} {K sh qs M : Nat → Nat} {o : Nat} (h0 : LI G τ f K sh qs M o) {H : Heap} {locs : List Loc} {ls : Array Slot} (h : hw D b0 s.heap f H locs) (hl : lv_has ls 7 [(4, .int i), (3, .ref o), (2, .ref (M 0)), (1, .ref (K 0)), (0, .ref b)]) {cells slots : Nat} (hc : cells + 49 ≤ 601024) (hs : slots + 4900 ≤ 7293034) {Q : State → Prop} (kk : ∀ (τ1 : Nat → Nat) (f1 : hM) (H1 : Heap) (locs1 : List Loc) (ls1 : Array Slot), LI G τ1 f1 K sh qs M o → hw D b0 s.heap f1 H1 locs1 → lv_has ls1 7 [(4, .int i), (3, .ref o), (2, .ref (M 0)), (1, .ref (K 0)), (0, .ref b)] → W p l e room_1 s m #[Value.ref b] below meth c H1 locs1 (cells + 49) (slots + 4900) Q (F0 m 2564 ls1 [])) : W p l e room_1 s m #[Value.ref b] below meth c H locs cells slots Q (F0 m 1846 ls []) := by
  obtain ⟨hx, hb, hr, hml, hown, hts0, hXs, hbl, hlk, hgv⟩ := id C0
  have hts : ∀ w ∈ wAll, w.before #[Value.ref b] s = true := fun w hw => hts0 w (wAll_tbl w hw)
  have C : hC p s m #[Value.ref b] meth c cL_law 7 RL D G b0 := ⟨hx, hb, hml, hown, hts, hE0, hlk⟩
  have hbA : ¬ hA b0 b := by rw [← hb0]; exact Nat.not_le.mpr hbl
  refine lv_aload_n hx hb dL_law_1846 rfl (lv_at hl 3 rfl) ?_
  refine law_arg (v := 1) hx hb hXs hbl hbA h.2.2.1 (hin 1 (by decide) (by decide)) (lv_at hl 0 rfl) (lv_at hl 4 rfl) (by decide) dL_law_1847 dL_law_1848 dL_law_1850 dL_law_1851 dL_law_1852 ?_
  refine law_arg (v := 2) hx hb hXs hbl hbA h.2.2.1 (hin 2 (by decide) (by decide)) (lv_at hl 0 rfl) (lv_at hl 4 rfl) (by decide) dL_law_1853 dL_law_1854 dL_law_1856 dL_law_1857 dL_law_1858 ?_
  refine law_arg (v := 3) hx hb hXs hbl hbA h.2.2.1 (hin 3 (by decide) (by decide)) (lv_at hl 0 rfl) (lv_at hl 4 rfl) (by decide) dL_law_1859 dL_law_1860 dL_law_1862 dL_law_1863 dL_law_1864 ?_
  refine law_arg (v := 4) hx hb hXs hbl hbA h.2.2.1 (hin 4 (by decide) (by decide)) (lv_at hl 0 rfl) (lv_at hl 4 rfl) (by decide) dL_law_1865 dL_law_1866 dL_law_1868 dL_law_1869 dL_law_1870 ?_
  refine law_arg (v := 5) hx hb hXs hbl hbA h.2.2.1 (hin 5 (by decide) (by decide)) (lv_at hl 0 rfl) (lv_at hl 4 rfl) (by decide) dL_law_1871 dL_law_1872 dL_law_1874 dL_law_1875 dL_law_1876 ?_
  obtain ⟨fs_, kc_⟩ := h0.cx
  refine k_i (r_V C h hl (As := [.int (xs (Int32.toNatClampNeg (i + 1))), .int (xs (Int32.toNatClampNeg (i + 2))), .int (xs (Int32.toNatClampNeg (i + 3))), .int (xs (Int32.toNatClampNeg (i + 4))), .int (xs (Int32.toNatClampNeg (i + 5)))]) (rest := []) (lx_33 l D G b0 h0 _ _ _ _ _) kc_ (Cn := RX10) (T := TX10) (N := 10) rfl rfl mk_X10_orbit w_966 w_967 w_968 w_969 ⟨Nat.le_of_ble_eq_true rfl, Nat.le_of_ble_eq_true rfl⟩ rfl (Nat.le_of_ble_eq_true rfl) ⟨law_c1 hc (Nat.le_of_ble_eq_true rfl), law_s1 hs (Nat.le_of_ble_eq_true rfl)⟩ rfl dL_law_1877) h (fun r1877 f H locs hp h => ?_)
  obtain ⟨τ, h0⟩ := hp
  refine lv_pop hx hb dL_law_1880 rfl ?_
  refine lv_aload_n hx hb dL_law_1881 rfl (lv_at hl 2 rfl) ?_
  refine law_arg (v := 1) hx hb hXs hbl hbA h.2.2.1 (hin 1 (by decide) (by decide)) (lv_at hl 0 rfl) (lv_at hl 4 rfl) (by decide) dL_law_1882 dL_law_1883 dL_law_1885 dL_law_1886 dL_law_1887 ?_
  refine law_arg (v := 2) hx hb hXs hbl hbA h.2.2.1 (hin 2 (by decide) (by decide)) (lv_at hl 0 rfl) (lv_at hl 4 rfl) (by decide) dL_law_1888 dL_law_1889 dL_law_1891 dL_law_1892 dL_law_1893 ?_
  refine law_arg (v := 3) hx hb hXs hbl hbA h.2.2.1 (hin 3 (by decide) (by decide)) (lv_at hl 0 rfl) (lv_at hl 4 rfl) (by decide) dL_law_1894 dL_law_1895 dL_law_1897 dL_law_1898 dL_law_1899 ?_
  refine law_arg (v := 4) hx hb hXs hbl hbA h.2.2.1 (hin 4 (by decide) (by decide)) (lv_at hl 0 rfl) (lv_at hl 4 rfl) (by decide) dL_law_1900 dL_law_1901 dL_law_1903 dL_law_1904 dL_law_1905 ?_
  refine law_arg (v := 5) hx hb hXs hbl hbA h.2.2.1 (hin 5 (by decide) (by decide)) (lv_at hl 0 rfl) (lv_at hl 4 rfl) (by decide) dL_law_1906 dL_law_1907 dL_law_1909 dL_law_1910 dL_law_1911 ?_
  obtain ⟨fs_, kc_⟩ := h0.cm
  refine k_i (r_V C h hl (As := [.int (xs (Int32.toNatClampNeg (i + 1))), .int (xs (Int32.toNatClampNeg (i + 2))), .int (xs (Int32.toNatClampNeg (i + 3))), .int (xs (Int32.toNatClampNeg (i + 4))), .int (xs (Int32.toNatClampNeg (i + 5)))]) (rest := []) (lm_33 l D G b0 h0 _ _ _ _ _) kc_ (Cn := RX11) (T := TX11) (N := 32) rfl rfl mk_X11_orbit w_1887 w_1888 w_1889 w_1890 ⟨Nat.le_of_ble_eq_true rfl, Nat.le_of_ble_eq_true rfl⟩ rfl (Nat.le_of_ble_eq_true rfl) ⟨law_c2 hc (Nat.le_of_ble_eq_true rfl), law_s2 hs (Nat.le_of_ble_eq_true rfl)⟩ rfl dL_law_1912) h (fun r1912 f H locs hp h => ?_)
  obtain ⟨τ, h0⟩ := hp
  refine lv_pop hx hb dL_law_1915 rfl ?_
  refine lv_goto (tgt := 2564) hx hb dL_law_1916 (by decide) ?_
  refine W.widen (k := cells + 49) (n := slots + 4900) (law_w (Nat.le_of_ble_eq_true rfl)) (law_w (Nat.le_of_ble_eq_true rfl)) ?_
  exact kk _ _ _ _ _ h0 h (lv_sub hl [0, 1, 2, 3, 4] rfl)
set_option maxRecDepth 100000 in
set_option maxHeartbeats 4000000 in
theorem law_34 {p : Program} {l : Launch} {e : Env} {s : State} {m : MethodId} {below : List Frame} {meth : Method} {c : Code} (hst : l.stackTraces = false) {b L : Nat} {xs : Nat → Int32} (C0 : lw_At p s m meth c b L xs) {D : va_G} {G : Nat → Nat} {b0 : Nat} (hb0 : s.heap.size = b0) (hE0 : hE D G b0 s s.heap) {i : Int32} (hin : ∀ k : Int32, 0 ≤ k.toInt → k.toInt ≤ 7 → vp_in (i + k) L) {τ : Nat → Nat} {f : hM} {K sh qs M : Nat → Nat} {o : Nat} (h0 : LI G τ f K sh qs M o) {H : Heap} {locs : List Loc} {ls : Array Slot} (h : hw D b0 s.heap f H locs) (hl : lv_has ls 7 [(4, .int i), (3, .ref o), (2, .ref (M 0)), (1, .ref (K 0)), (0, .ref b)]) {cells slots : Nat} (hc : cells + 49 ≤ 601024) (hs : slots + 4900 ≤ 7293034) {Q : State → Prop} (kk : ∀ (τ1 : Nat → Nat) (f1 : hM) (H1 : Heap) (locs1 : List Loc) (ls1 : Array Slot), LI G τ1 f1 K sh qs M o → hw D b0 s.heap f1 H1 locs1 → lv_has ls1 7 [(4, .int i), (3, .ref o), (2, .ref (M 0)), (1, .ref (K 0)), (0, .ref b)] → W p l e room_1 s m #[Value.ref b] below meth c H1 locs1 (cells + 49) (slots + 4900) Q (F0 m 2564 ls1 [])) : W p l e room_1 s m #[Value.ref b] below meth c H locs cells slots Q (F0 m 1919 ls []) := by
  obtain ⟨hx, hb, hr, hml, hown, hts0, hXs, hbl, hlk, hgv⟩ := id C0
  have hts : ∀ w ∈ wAll, w.before #[Value.ref b] s = true := fun w hw => hts0 w (wAll_tbl w hw)
  have C : hC p s m #[Value.ref b] meth c cL_law 7 RL D G b0 := ⟨hx, hb, hml, hown, hts, hE0, hlk⟩
  have hbA : ¬ hA b0 b := by rw [← hb0]; exact Nat.not_le.mpr hbl
  refine lv_aload_n hx hb dL_law_1919 rfl (lv_at hl 3 rfl) ?_
  refine law_arg (v := 1) hx hb hXs hbl hbA h.2.2.1 (hin 1 (by decide) (by decide)) (lv_at hl 0 rfl) (lv_at hl 4 rfl) (by decide) dL_law_1920 dL_law_1921 dL_law_1923 dL_law_1924 dL_law_1925 ?_
  obtain ⟨fs_, kc_⟩ := h0.cx
  refine k_i (r_V C h hl (As := [.int (xs (Int32.toNatClampNeg (i + 1)))]) (rest := []) (lx_34 l D G b0 h0 _) kc_ (Cn := RX10) (T := TX10) (N := 10) rfl rfl mk_X10_group w_976 w_977 w_978 w_979 ⟨Nat.le_of_ble_eq_true rfl, Nat.le_of_ble_eq_true rfl⟩ rfl (Nat.le_of_ble_eq_true rfl) ⟨law_c1 hc (Nat.le_of_ble_eq_true rfl), law_s1 hs (Nat.le_of_ble_eq_true rfl)⟩ rfl dL_law_1926) h (fun r1926 f H locs hp h => ?_)
  obtain ⟨τ, h0⟩ := hp
  refine lv_pop hx hb dL_law_1929 rfl ?_
  refine lv_aload_n hx hb dL_law_1930 rfl (lv_at hl 2 rfl) ?_
  refine law_arg (v := 1) hx hb hXs hbl hbA h.2.2.1 (hin 1 (by decide) (by decide)) (lv_at hl 0 rfl) (lv_at hl 4 rfl) (by decide) dL_law_1931 dL_law_1932 dL_law_1934 dL_law_1935 dL_law_1936 ?_
  obtain ⟨fs_, kc_⟩ := h0.cm
  refine k_i (r_V C h hl (As := [.int (xs (Int32.toNatClampNeg (i + 1)))]) (rest := []) (lm_34 l D G b0 h0 _) kc_ (Cn := RX11) (T := TX11) (N := 32) rfl rfl mk_X11_group w_1895 w_1896 w_1897 w_1898 ⟨Nat.le_of_ble_eq_true rfl, Nat.le_of_ble_eq_true rfl⟩ rfl (Nat.le_of_ble_eq_true rfl) ⟨law_c2 hc (Nat.le_of_ble_eq_true rfl), law_s2 hs (Nat.le_of_ble_eq_true rfl)⟩ rfl dL_law_1937) h (fun r1937 f H locs hp h => ?_)
  obtain ⟨τ, h0⟩ := hp
  refine lv_pop hx hb dL_law_1940 rfl ?_
  refine lv_goto (tgt := 2564) hx hb dL_law_1941 (by decide) ?_
  refine W.widen (k := cells + 49) (n := slots + 4900) (law_w (Nat.le_of_ble_eq_true rfl)) (law_w (Nat.le_of_ble_eq_true rfl)) ?_
  exact kk _ _ _ _ _ h0 h (lv_sub hl [0, 1, 2, 3, 4] rfl)
set_option maxRecDepth 100000 in
set_option maxHeartbeats 4000000 in
theorem law_35 {p : Program} {l : Launch} {e : Env} {s : State} {m : MethodId} {below : List Frame} {meth : Method} {c : Code} (hst : l.stackTraces = false) {b L : Nat} {xs : Nat → Int32} (C0 : lw_At p s m meth c b L xs) {D : va_G} {G : Nat → Nat} {b0 : Nat} (hb0 : s.heap.size = b0) (hE0 : hE D G b0 s s.heap) {i : Int32} (hin : ∀ k : Int32, 0 ≤ k.toInt → k.toInt ≤ 7 → vp_in (i + k) L) {τ : Nat → Nat} {f : hM} {K sh qs M : Nat → Nat} {o : Nat} (h0 : LI G τ f K sh qs M o) {H : Heap} {locs : List Loc} {ls : Array Slot} (h : hw D b0 s.heap f H locs) (hl : lv_has ls 7 [(4, .int i), (3, .ref o), (2, .ref (M 0)), (1, .ref (K 0)), (0, .ref b)]) {cells slots : Nat} (hc : cells + 49 ≤ 601024) (hs : slots + 4900 ≤ 7293034) {Q : State → Prop} (kk : ∀ (τ1 : Nat → Nat) (f1 : hM) (H1 : Heap) (locs1 : List Loc) (ls1 : Array Slot), LI G τ1 f1 K sh qs M o → hw D b0 s.heap f1 H1 locs1 → lv_has ls1 7 [(4, .int i), (3, .ref o), (2, .ref (M 0)), (1, .ref (K 0)), (0, .ref b)] → W p l e room_1 s m #[Value.ref b] below meth c H1 locs1 (cells + 49) (slots + 4900) Q (F0 m 2564 ls1 [])) : W p l e room_1 s m #[Value.ref b] below meth c H locs cells slots Q (F0 m 1944 ls []) := by
  obtain ⟨hx, hb, hr, hml, hown, hts0, hXs, hbl, hlk, hgv⟩ := id C0
  have hts : ∀ w ∈ wAll, w.before #[Value.ref b] s = true := fun w hw => hts0 w (wAll_tbl w hw)
  have C : hC p s m #[Value.ref b] meth c cL_law 7 RL D G b0 := ⟨hx, hb, hml, hown, hts, hE0, hlk⟩
  have hbA : ¬ hA b0 b := by rw [← hb0]; exact Nat.not_le.mpr hbl
  refine lv_aload_n hx hb dL_law_1944 rfl (lv_at hl 3 rfl) ?_
  refine law_arg (v := 1) hx hb hXs hbl hbA h.2.2.1 (hin 1 (by decide) (by decide)) (lv_at hl 0 rfl) (lv_at hl 4 rfl) (by decide) dL_law_1945 dL_law_1946 dL_law_1948 dL_law_1949 dL_law_1950 ?_
  refine law_arg (v := 2) hx hb hXs hbl hbA h.2.2.1 (hin 2 (by decide) (by decide)) (lv_at hl 0 rfl) (lv_at hl 4 rfl) (by decide) dL_law_1951 dL_law_1952 dL_law_1954 dL_law_1955 dL_law_1956 ?_
  refine law_arg (v := 3) hx hb hXs hbl hbA h.2.2.1 (hin 3 (by decide) (by decide)) (lv_at hl 0 rfl) (lv_at hl 4 rfl) (by decide) dL_law_1957 dL_law_1958 dL_law_1960 dL_law_1961 dL_law_1962 ?_
  obtain ⟨fs_, kc_⟩ := h0.cx
  refine k_i (r_V C h hl (As := [.int (xs (Int32.toNatClampNeg (i + 1))), .int (xs (Int32.toNatClampNeg (i + 2))), .int (xs (Int32.toNatClampNeg (i + 3)))]) (rest := []) (lx_35 l D G b0 h0 _ _ _) kc_ (Cn := RX10) (T := TX10) (N := 10) rfl rfl mk_X10_sum w_986 w_987 w_988 w_989 ⟨Nat.le_of_ble_eq_true rfl, Nat.le_of_ble_eq_true rfl⟩ rfl (Nat.le_of_ble_eq_true rfl) ⟨law_c1 hc (Nat.le_of_ble_eq_true rfl), law_s1 hs (Nat.le_of_ble_eq_true rfl)⟩ rfl dL_law_1963) h (fun r1963 f H locs hp h => ?_)
  obtain ⟨τ, h0⟩ := hp
  refine lv_pop hx hb dL_law_1966 rfl ?_
  refine lv_aload_n hx hb dL_law_1967 rfl (lv_at hl 2 rfl) ?_
  refine law_arg (v := 1) hx hb hXs hbl hbA h.2.2.1 (hin 1 (by decide) (by decide)) (lv_at hl 0 rfl) (lv_at hl 4 rfl) (by decide) dL_law_1968 dL_law_1969 dL_law_1971 dL_law_1972 dL_law_1973 ?_
  refine law_arg (v := 2) hx hb hXs hbl hbA h.2.2.1 (hin 2 (by decide) (by decide)) (lv_at hl 0 rfl) (lv_at hl 4 rfl) (by decide) dL_law_1974 dL_law_1975 dL_law_1977 dL_law_1978 dL_law_1979 ?_
  refine law_arg (v := 3) hx hb hXs hbl hbA h.2.2.1 (hin 3 (by decide) (by decide)) (lv_at hl 0 rfl) (lv_at hl 4 rfl) (by decide) dL_law_1980 dL_law_1981 dL_law_1983 dL_law_1984 dL_law_1985 ?_
  obtain ⟨fs_, kc_⟩ := h0.cm
  refine k_i (r_V C h hl (As := [.int (xs (Int32.toNatClampNeg (i + 1))), .int (xs (Int32.toNatClampNeg (i + 2))), .int (xs (Int32.toNatClampNeg (i + 3)))]) (rest := []) (lm_35 l D G b0 h0 _ _ _) kc_ (Cn := RX11) (T := TX11) (N := 32) rfl rfl mk_X11_sum w_1904 w_1905 w_1906 w_1907 ⟨Nat.le_of_ble_eq_true rfl, Nat.le_of_ble_eq_true rfl⟩ rfl (Nat.le_of_ble_eq_true rfl) ⟨law_c2 hc (Nat.le_of_ble_eq_true rfl), law_s2 hs (Nat.le_of_ble_eq_true rfl)⟩ rfl dL_law_1986) h (fun r1986 f H locs hp h => ?_)
  obtain ⟨τ, h0⟩ := hp
  refine lv_pop hx hb dL_law_1989 rfl ?_
  refine lv_goto (tgt := 2564) hx hb dL_law_1990 (by decide) ?_
  refine W.widen (k := cells + 49) (n := slots + 4900) (law_w (Nat.le_of_ble_eq_true rfl)) (law_w (Nat.le_of_ble_eq_true rfl)) ?_
  exact kk _ _ _ _ _ h0 h (lv_sub hl [0, 1, 2, 3, 4] rfl)
set_option maxRecDepth 100000 in
set_option maxHeartbeats 4000000 in
theorem law_36 {p : Program} {l : Launch} {e : Env} {s : State} {m : MethodId} {below : List Frame} {meth : Method} {c : Code} (hst : l.stackTraces = false) {b L : Nat} {xs : Nat → Int32} (C0 : lw_At p s m meth c b L xs) {D : va_G} {G : Nat → Nat} {b0 : Nat} (hb0 : s.heap.size = b0) (hE0 : hE D G b0 s s.heap) {i : Int32} (hin : ∀ k : Int32, 0 ≤ k.toInt → k.toInt ≤ 7 → vp_in (i + k) L) {τ : Nat → Nat} {f : hM} {K sh qs M : Nat → Nat} {o : Nat} (h0 : LI G τ f K sh qs M o) {H : Heap} {locs : List Loc} {ls : Array Slot} (h : hw D b0 s.heap f H locs) (hl : lv_has ls 7 [(4, .int i), (3, .ref o), (2, .ref (M 0)), (1, .ref (K 0)), (0, .ref b)]) {cells slots : Nat} (hc : cells + 49 ≤ 601024) (hs : slots + 4900 ≤ 7293034) {Q : State → Prop} (kk : ∀ (τ1 : Nat → Nat) (f1 : hM) (H1 : Heap) (locs1 : List Loc) (ls1 : Array Slot), LI G τ1 f1 K sh qs M o → hw D b0 s.heap f1 H1 locs1 → lv_has ls1 7 [(4, .int i), (3, .ref o), (2, .ref (M 0)), (1, .ref (K 0)), (0, .ref b)] → W p l e room_1 s m #[Value.ref b] below meth c H1 locs1 (cells + 49) (slots + 4900) Q (F0 m 2564 ls1 [])) : W p l e room_1 s m #[Value.ref b] below meth c H locs cells slots Q (F0 m 1993 ls []) := by
  obtain ⟨hx, hb, hr, hml, hown, hts0, hXs, hbl, hlk, hgv⟩ := id C0
  have hts : ∀ w ∈ wAll, w.before #[Value.ref b] s = true := fun w hw => hts0 w (wAll_tbl w hw)
  have C : hC p s m #[Value.ref b] meth c cL_law 7 RL D G b0 := ⟨hx, hb, hml, hown, hts, hE0, hlk⟩
  have hbA : ¬ hA b0 b := by rw [← hb0]; exact Nat.not_le.mpr hbl
  refine lv_aload_n hx hb dL_law_1993 rfl (lv_at hl 3 rfl) ?_
  refine law_arg (v := 1) hx hb hXs hbl hbA h.2.2.1 (hin 1 (by decide) (by decide)) (lv_at hl 0 rfl) (lv_at hl 4 rfl) (by decide) dL_law_1994 dL_law_1995 dL_law_1997 dL_law_1998 dL_law_1999 ?_
  obtain ⟨fs_, kc_⟩ := h0.cx
  refine k_i (r_V C h hl (As := [.int (xs (Int32.toNatClampNeg (i + 1)))]) (rest := []) (lx_36 l D G b0 h0 _) kc_ (Cn := RX10) (T := TX10) (N := 10) rfl rfl mk_X10_noUse w_994 w_995 w_996 w_997 ⟨Nat.le_of_ble_eq_true rfl, Nat.le_of_ble_eq_true rfl⟩ rfl (Nat.le_of_ble_eq_true rfl) ⟨law_c1 hc (Nat.le_of_ble_eq_true rfl), law_s1 hs (Nat.le_of_ble_eq_true rfl)⟩ rfl dL_law_2000) h (fun r2000 f H locs hp h => ?_)
  obtain ⟨τ, h0⟩ := hp
  refine lv_pop hx hb dL_law_2003 rfl ?_
  refine lv_aload_n hx hb dL_law_2004 rfl (lv_at hl 2 rfl) ?_
  refine law_arg (v := 1) hx hb hXs hbl hbA h.2.2.1 (hin 1 (by decide) (by decide)) (lv_at hl 0 rfl) (lv_at hl 4 rfl) (by decide) dL_law_2005 dL_law_2006 dL_law_2008 dL_law_2009 dL_law_2010 ?_
  obtain ⟨fs_, kc_⟩ := h0.cm
  refine k_i (r_V C h hl (As := [.int (xs (Int32.toNatClampNeg (i + 1)))]) (rest := []) (lm_36 l D G b0 h0 _) kc_ (Cn := RX11) (T := TX11) (N := 32) rfl rfl mk_X11_noUse w_1908 w_1909 w_1910 w_1911 ⟨Nat.le_of_ble_eq_true rfl, Nat.le_of_ble_eq_true rfl⟩ rfl (Nat.le_of_ble_eq_true rfl) ⟨law_c2 hc (Nat.le_of_ble_eq_true rfl), law_s2 hs (Nat.le_of_ble_eq_true rfl)⟩ rfl dL_law_2011) h (fun r2011 f H locs hp h => ?_)
  obtain ⟨τ, h0⟩ := hp
  refine lv_pop hx hb dL_law_2014 rfl ?_
  refine lv_goto (tgt := 2564) hx hb dL_law_2015 (by decide) ?_
  refine W.widen (k := cells + 49) (n := slots + 4900) (law_w (Nat.le_of_ble_eq_true rfl)) (law_w (Nat.le_of_ble_eq_true rfl)) ?_
  exact kk _ _ _ _ _ h0 h (lv_sub hl [0, 1, 2, 3, 4] rfl)
set_option maxRecDepth 100000 in
set_option maxHeartbeats 4000000 in
theorem law_37 {p : Program} {l : Launch} {e : Env} {s : State} {m : MethodId} {below : List Frame} {meth : Method} {c : Code} (hst : l.stackTraces = false) {b L : Nat} {xs : Nat → Int32} (C0 : lw_At p s m meth c b L xs) {D : va_G} {G : Nat → Nat} {b0 : Nat} (hb0 : s.heap.size = b0) (hE0 : hE D G b0 s s.heap) {i : Int32} (hin : ∀ k : Int32, 0 ≤ k.toInt → k.toInt ≤ 7 → vp_in (i + k) L) {τ : Nat → Nat} {f : hM} {K sh qs M : Nat → Nat} {o : Nat} (h0 : LI G τ f K sh qs M o) {H : Heap} {locs : List Loc} {ls : Array Slot} (h : hw D b0 s.heap f H locs) (hl : lv_has ls 7 [(4, .int i), (3, .ref o), (2, .ref (M 0)), (1, .ref (K 0)), (0, .ref b)]) {cells slots : Nat} (hc : cells + 49 ≤ 601024) (hs : slots + 4900 ≤ 7293034) {Q : State → Prop} (kk : ∀ (τ1 : Nat → Nat) (f1 : hM) (H1 : Heap) (locs1 : List Loc) (ls1 : Array Slot), LI G τ1 f1 K sh qs M o → hw D b0 s.heap f1 H1 locs1 → lv_has ls1 7 [(4, .int i), (3, .ref o), (2, .ref (M 0)), (1, .ref (K 0)), (0, .ref b)] → W p l e room_1 s m #[Value.ref b] below meth c H1 locs1 (cells + 49) (slots + 4900) Q (F0 m 2564 ls1 [])) : W p l e room_1 s m #[Value.ref b] below meth c H locs cells slots Q (F0 m 2018 ls []) := by
  obtain ⟨hx, hb, hr, hml, hown, hts0, hXs, hbl, hlk, hgv⟩ := id C0
  have hts : ∀ w ∈ wAll, w.before #[Value.ref b] s = true := fun w hw => hts0 w (wAll_tbl w hw)
  have C : hC p s m #[Value.ref b] meth c cL_law 7 RL D G b0 := ⟨hx, hb, hml, hown, hts, hE0, hlk⟩
  have hbA : ¬ hA b0 b := by rw [← hb0]; exact Nat.not_le.mpr hbl
  refine lv_aload_n hx hb dL_law_2018 rfl (lv_at hl 3 rfl) ?_
  refine law_arg (v := 1) hx hb hXs hbl hbA h.2.2.1 (hin 1 (by decide) (by decide)) (lv_at hl 0 rfl) (lv_at hl 4 rfl) (by decide) dL_law_2019 dL_law_2020 dL_law_2022 dL_law_2023 dL_law_2024 ?_
  obtain ⟨fs_, kc_⟩ := h0.cx
  refine k_i (r_V C h hl (As := [.int (xs (Int32.toNatClampNeg (i + 1)))]) (rest := []) (lx_37 l D G b0 h0 _) kc_ (Cn := RX10) (T := TX10) (N := 10) rfl rfl mk_X10_enough w_1006 w_1007 w_1008 w_1009 ⟨Nat.le_of_ble_eq_true rfl, Nat.le_of_ble_eq_true rfl⟩ rfl (Nat.le_of_ble_eq_true rfl) ⟨law_c1 hc (Nat.le_of_ble_eq_true rfl), law_s1 hs (Nat.le_of_ble_eq_true rfl)⟩ rfl dL_law_2025) h (fun r2025 f H locs hp h => ?_)
  obtain ⟨τ, h0⟩ := hp
  refine lv_pop hx hb dL_law_2028 rfl ?_
  refine lv_aload_n hx hb dL_law_2029 rfl (lv_at hl 2 rfl) ?_
  refine law_arg (v := 1) hx hb hXs hbl hbA h.2.2.1 (hin 1 (by decide) (by decide)) (lv_at hl 0 rfl) (lv_at hl 4 rfl) (by decide) dL_law_2030 dL_law_2031 dL_law_2033 dL_law_2034 dL_law_2035 ?_
  obtain ⟨fs_, kc_⟩ := h0.cm
  refine k_i (r_V C h hl (As := [.int (xs (Int32.toNatClampNeg (i + 1)))]) (rest := []) (lm_37 l D G b0 h0 _) kc_ (Cn := RX11) (T := TX11) (N := 32) rfl rfl mk_X11_enough w_1912 w_1913 w_1914 w_1915 ⟨Nat.le_of_ble_eq_true rfl, Nat.le_of_ble_eq_true rfl⟩ rfl (Nat.le_of_ble_eq_true rfl) ⟨law_c2 hc (Nat.le_of_ble_eq_true rfl), law_s2 hs (Nat.le_of_ble_eq_true rfl)⟩ rfl dL_law_2036) h (fun r2036 f H locs hp h => ?_)
  obtain ⟨τ, h0⟩ := hp
  refine lv_pop hx hb dL_law_2039 rfl ?_
  refine lv_goto (tgt := 2564) hx hb dL_law_2040 (by decide) ?_
  refine W.widen (k := cells + 49) (n := slots + 4900) (law_w (Nat.le_of_ble_eq_true rfl)) (law_w (Nat.le_of_ble_eq_true rfl)) ?_
  exact kk _ _ _ _ _ h0 h (lv_sub hl [0, 1, 2, 3, 4] rfl)
set_option maxRecDepth 100000 in
set_option maxHeartbeats 4000000 in
theorem law_38 {p : Program} {l : Launch} {e : Env} {s : State} {m : MethodId} {below : List Frame} {meth : Method} {c : Code} (hst : l.stackTraces = false) {b L : Nat} {xs : Nat → Int32} (C0 : lw_At p s m meth c b L xs) {D : va_G} {G : Nat → Nat} {b0 : Nat} (hb0 : s.heap.size = b0) (hE0 : hE D G b0 s s.heap) {i : Int32} (hin : ∀ k : Int32, 0 ≤ k.toInt → k.toInt ≤ 7 → vp_in (i + k) L) {τ : Nat → Nat} {f : hM} {K sh qs M : Nat → Nat} {o : Nat} (h0 : LI G τ f K sh qs M o) {H : Heap} {locs : List Loc} {ls : Array Slot} (h : hw D b0 s.heap f H locs) (hl : lv_has ls 7 [(4, .int i), (3, .ref o), (2, .ref (M 0)), (1, .ref (K 0)), (0, .ref b)]) {cells slots : Nat} (hc : cells + 49 ≤ 601024) (hs : slots + 4900 ≤ 7293034) {Q : State → Prop} (kk : ∀ (τ1 : Nat → Nat) (f1 : hM) (H1 : Heap) (locs1 : List Loc) (ls1 : Array Slot), LI G τ1 f1 K sh qs M o → hw D b0 s.heap f1 H1 locs1 → lv_has ls1 7 [(4, .int i), (3, .ref o), (2, .ref (M 0)), (1, .ref (K 0)), (0, .ref b)] → W p l e room_1 s m #[Value.ref b] below meth c H1 locs1 (cells + 49) (slots + 4900) Q (F0 m 2564 ls1 [])) : W p l e room_1 s m #[Value.ref b] below meth c H locs cells slots Q (F0 m 2043 ls []) := by
  obtain ⟨hx, hb, hr, hml, hown, hts0, hXs, hbl, hlk, hgv⟩ := id C0
  have hts : ∀ w ∈ wAll, w.before #[Value.ref b] s = true := fun w hw => hts0 w (wAll_tbl w hw)
  have C : hC p s m #[Value.ref b] meth c cL_law 7 RL D G b0 := ⟨hx, hb, hml, hown, hts, hE0, hlk⟩
  have hbA : ¬ hA b0 b := by rw [← hb0]; exact Nat.not_le.mpr hbl
  refine lv_aload_n hx hb dL_law_2043 rfl (lv_at hl 3 rfl) ?_
  refine law_arg (v := 1) hx hb hXs hbl hbA h.2.2.1 (hin 1 (by decide) (by decide)) (lv_at hl 0 rfl) (lv_at hl 4 rfl) (by decide) dL_law_2044 dL_law_2045 dL_law_2047 dL_law_2048 dL_law_2049 ?_
  obtain ⟨fs_, kc_⟩ := h0.cx
  refine k_i (r_V C h hl (As := [.int (xs (Int32.toNatClampNeg (i + 1)))]) (rest := []) (lx_38 l D G b0 h0 _) kc_ (Cn := RX10) (T := TX10) (N := 10) rfl rfl mk_X10_alike w_1015 w_1016 w_1017 w_1018 ⟨Nat.le_of_ble_eq_true rfl, Nat.le_of_ble_eq_true rfl⟩ rfl (Nat.le_of_ble_eq_true rfl) ⟨law_c1 hc (Nat.le_of_ble_eq_true rfl), law_s1 hs (Nat.le_of_ble_eq_true rfl)⟩ rfl dL_law_2050) h (fun r2050 f H locs hp h => ?_)
  obtain ⟨τ, h0⟩ := hp
  refine lv_pop hx hb dL_law_2053 rfl ?_
  refine lv_aload_n hx hb dL_law_2054 rfl (lv_at hl 2 rfl) ?_
  refine law_arg (v := 1) hx hb hXs hbl hbA h.2.2.1 (hin 1 (by decide) (by decide)) (lv_at hl 0 rfl) (lv_at hl 4 rfl) (by decide) dL_law_2055 dL_law_2056 dL_law_2058 dL_law_2059 dL_law_2060 ?_
  obtain ⟨fs_, kc_⟩ := h0.cm
  refine k_i (r_V C h hl (As := [.int (xs (Int32.toNatClampNeg (i + 1)))]) (rest := []) (lm_38 l D G b0 h0 _) kc_ (Cn := RX11) (T := TX11) (N := 32) rfl rfl mk_X11_alike w_1920 w_1921 w_1922 w_1923 ⟨Nat.le_of_ble_eq_true rfl, Nat.le_of_ble_eq_true rfl⟩ rfl (Nat.le_of_ble_eq_true rfl) ⟨law_c2 hc (Nat.le_of_ble_eq_true rfl), law_s2 hs (Nat.le_of_ble_eq_true rfl)⟩ rfl dL_law_2061) h (fun r2061 f H locs hp h => ?_)
  obtain ⟨τ, h0⟩ := hp
  refine lv_pop hx hb dL_law_2064 rfl ?_
  refine lv_goto (tgt := 2564) hx hb dL_law_2065 (by decide) ?_
  refine W.widen (k := cells + 49) (n := slots + 4900) (law_w (Nat.le_of_ble_eq_true rfl)) (law_w (Nat.le_of_ble_eq_true rfl)) ?_
  exact kk _ _ _ _ _ h0 h (lv_sub hl [0, 1, 2, 3, 4] rfl)
set_option maxRecDepth 100000 in
set_option maxHeartbeats 4000000 in
theorem law_39 {p : Program} {l : Launch} {e : Env} {s : State} {m : MethodId} {below : List Frame} {meth : Method} {c : Code} (hst : l.stackTraces = false) {b L : Nat} {xs : Nat → Int32} (C0 : lw_At p s m meth c b L xs) {D : va_G} {G : Nat → Nat} {b0 : Nat} (hb0 : s.heap.size = b0) (hE0 : hE D G b0 s s.heap) {i : Int32} (hin : ∀ k : Int32, 0 ≤ k.toInt → k.toInt ≤ 7 → vp_in (i + k) L) {τ : Nat → Nat} {f : hM} {K sh qs M : Nat → Nat} {o : Nat} (h0 : LI G τ f K sh qs M o) {H : Heap} {locs : List Loc} {ls : Array Slot} (h : hw D b0 s.heap f H locs) (hl : lv_has ls 7 [(4, .int i), (3, .ref o), (2, .ref (M 0)), (1, .ref (K 0)), (0, .ref b)]) {cells slots : Nat} (hc : cells + 49 ≤ 601024) (hs : slots + 4900 ≤ 7293034) {Q : State → Prop} (kk : ∀ (τ1 : Nat → Nat) (f1 : hM) (H1 : Heap) (locs1 : List Loc) (ls1 : Array Slot), LI G τ1 f1 K sh qs M o → hw D b0 s.heap f1 H1 locs1 → lv_has ls1 7 [(4, .int i), (3, .ref o), (2, .ref (M 0)), (1, .ref (K 0)), (0, .ref b)] → W p l e room_1 s m #[Value.ref b] below meth c H1 locs1 (cells + 49) (slots + 4900) Q (F0 m 2564 ls1 [])) : W p l e room_1 s m #[Value.ref b] below meth c H locs cells slots Q (F0 m 2068 ls []) := by
  obtain ⟨hx, hb, hr, hml, hown, hts0, hXs, hbl, hlk, hgv⟩ := id C0
  have hts : ∀ w ∈ wAll, w.before #[Value.ref b] s = true := fun w hw => hts0 w (wAll_tbl w hw)
  have C : hC p s m #[Value.ref b] meth c cL_law 7 RL D G b0 := ⟨hx, hb, hml, hown, hts, hE0, hlk⟩
  have hbA : ¬ hA b0 b := by rw [← hb0]; exact Nat.not_le.mpr hbl
  refine lv_aload_n hx hb dL_law_2068 rfl (lv_at hl 3 rfl) ?_
  refine law_arg (v := 1) hx hb hXs hbl hbA h.2.2.1 (hin 1 (by decide) (by decide)) (lv_at hl 0 rfl) (lv_at hl 4 rfl) (by decide) dL_law_2069 dL_law_2070 dL_law_2072 dL_law_2073 dL_law_2074 ?_
  refine law_arg (v := 2) hx hb hXs hbl hbA h.2.2.1 (hin 2 (by decide) (by decide)) (lv_at hl 0 rfl) (lv_at hl 4 rfl) (by decide) dL_law_2075 dL_law_2076 dL_law_2078 dL_law_2079 dL_law_2080 ?_
  refine law_arg (v := 3) hx hb hXs hbl hbA h.2.2.1 (hin 3 (by decide) (by decide)) (lv_at hl 0 rfl) (lv_at hl 4 rfl) (by decide) dL_law_2081 dL_law_2082 dL_law_2084 dL_law_2085 dL_law_2086 ?_
  refine law_arg (v := 4) hx hb hXs hbl hbA h.2.2.1 (hin 4 (by decide) (by decide)) (lv_at hl 0 rfl) (lv_at hl 4 rfl) (by decide) dL_law_2087 dL_law_2088 dL_law_2090 dL_law_2091 dL_law_2092 ?_
  refine law_arg (v := 5) hx hb hXs hbl hbA h.2.2.1 (hin 5 (by decide) (by decide)) (lv_at hl 0 rfl) (lv_at hl 4 rfl) (by decide) dL_law_2093 dL_law_2094 dL_law_2096 dL_law_2097 dL_law_2098 ?_
  refine lv_aload_n hx hb dL_law_2099 rfl (lv_at hl 4 rfl) ?_
  refine lv_iload hx hb dL_law_2100 (lv_at hl 0 rfl) ?_
  refine lv_bipush (v := 6) hx hb dL_law_2102 (by decide) ?_
  refine lv_iadd hx hb dL_law_2104 ?_
  refine va_sld hx hb hXs hbl hbA h.2.2.1 (hin 6 (by decide) (by decide)) dL_law_2105 ?_
  obtain ⟨fs_, kc_⟩ := h0.cx
  refine k_i (r_V C h hl (As := [.int (xs (Int32.toNatClampNeg (i + 1))), .int (xs (Int32.toNatClampNeg (i + 2))), .int (xs (Int32.toNatClampNeg (i + 3))), .int (xs (Int32.toNatClampNeg (i + 4))), .int (xs (Int32.toNatClampNeg (i + 5))), .int (xs (Int32.toNatClampNeg (i + 6)))]) (rest := []) (lx_39 l D G b0 h0 _ _ _ _ _ _) kc_ (Cn := RX10) (T := TX10) (N := 10) rfl rfl mk_X10_recurrence w_1022 w_1023 w_1024 w_1025 ⟨Nat.le_of_ble_eq_true rfl, Nat.le_of_ble_eq_true rfl⟩ rfl (Nat.le_of_ble_eq_true rfl) ⟨law_c1 hc (Nat.le_of_ble_eq_true rfl), law_s1 hs (Nat.le_of_ble_eq_true rfl)⟩ rfl dL_law_2106) h (fun r2106 f H locs hp h => ?_)
  obtain ⟨τ, h0⟩ := hp
  refine lv_pop hx hb dL_law_2109 rfl ?_
  refine lv_aload_n hx hb dL_law_2110 rfl (lv_at hl 2 rfl) ?_
  refine law_arg (v := 1) hx hb hXs hbl hbA h.2.2.1 (hin 1 (by decide) (by decide)) (lv_at hl 0 rfl) (lv_at hl 4 rfl) (by decide) dL_law_2111 dL_law_2112 dL_law_2114 dL_law_2115 dL_law_2116 ?_
  refine law_arg (v := 2) hx hb hXs hbl hbA h.2.2.1 (hin 2 (by decide) (by decide)) (lv_at hl 0 rfl) (lv_at hl 4 rfl) (by decide) dL_law_2117 dL_law_2118 dL_law_2120 dL_law_2121 dL_law_2122 ?_
  refine law_arg (v := 3) hx hb hXs hbl hbA h.2.2.1 (hin 3 (by decide) (by decide)) (lv_at hl 0 rfl) (lv_at hl 4 rfl) (by decide) dL_law_2123 dL_law_2124 dL_law_2126 dL_law_2127 dL_law_2128 ?_
  refine law_arg (v := 4) hx hb hXs hbl hbA h.2.2.1 (hin 4 (by decide) (by decide)) (lv_at hl 0 rfl) (lv_at hl 4 rfl) (by decide) dL_law_2129 dL_law_2130 dL_law_2132 dL_law_2133 dL_law_2134 ?_
  refine law_arg (v := 5) hx hb hXs hbl hbA h.2.2.1 (hin 5 (by decide) (by decide)) (lv_at hl 0 rfl) (lv_at hl 4 rfl) (by decide) dL_law_2135 dL_law_2136 dL_law_2138 dL_law_2139 dL_law_2140 ?_
  refine lv_aload_n hx hb dL_law_2141 rfl (lv_at hl 4 rfl) ?_
  refine lv_iload hx hb dL_law_2142 (lv_at hl 0 rfl) ?_
  refine lv_bipush (v := 6) hx hb dL_law_2144 (by decide) ?_
  refine lv_iadd hx hb dL_law_2146 ?_
  refine va_sld hx hb hXs hbl hbA h.2.2.1 (hin 6 (by decide) (by decide)) dL_law_2147 ?_
  obtain ⟨fs_, kc_⟩ := h0.cm
  refine k_i (r_V C h hl (As := [.int (xs (Int32.toNatClampNeg (i + 1))), .int (xs (Int32.toNatClampNeg (i + 2))), .int (xs (Int32.toNatClampNeg (i + 3))), .int (xs (Int32.toNatClampNeg (i + 4))), .int (xs (Int32.toNatClampNeg (i + 5))), .int (xs (Int32.toNatClampNeg (i + 6)))]) (rest := []) (lm_39 l D G b0 h0 _ _ _ _ _ _) kc_ (Cn := RX11) (T := TX11) (N := 32) rfl rfl mk_X11_recurrence w_1928 w_1929 w_1930 w_1931 ⟨Nat.le_of_ble_eq_true rfl, Nat.le_of_ble_eq_true rfl⟩ rfl (Nat.le_of_ble_eq_true rfl) ⟨law_c2 hc (Nat.le_of_ble_eq_true rfl), law_s2 hs (Nat.le_of_ble_eq_true rfl)⟩ rfl dL_law_2148) h (fun r2148 f H locs hp h => ?_)
  obtain ⟨τ, h0⟩ := hp
  refine lv_pop hx hb dL_law_2151 rfl ?_
  refine lv_goto (tgt := 2564) hx hb dL_law_2152 (by decide) ?_
  refine W.widen (k := cells + 49) (n := slots + 4900) (law_w (Nat.le_of_ble_eq_true rfl)) (law_w (Nat.le_of_ble_eq_true rfl)) ?_
  exact kk _ _ _ _ _ h0 h (lv_sub hl [0, 1, 2, 3, 4] rfl)
set_option maxRecDepth 100000 in
set_option maxHeartbeats 4000000 in
theorem law_40 {p : Program} {l : Launch} {e : Env} {s : State} {m : MethodId} {below : List Frame} {meth : Method} {c : Code} (hst : l.stackTraces = false) {b L : Nat} {xs : Nat → Int32} (C0 : lw_At p s m meth c b L xs) {D : va_G} {G : Nat → Nat} {b0 : Nat} (hb0 : s.heap.size = b0) (hE0 : hE D G b0 s s.heap) {i : Int32} (hin : ∀ k : Int32, 0 ≤ k.toInt → k.toInt ≤ 7 → vp_in (i + k) L) {τ : Nat → Nat} {f : hM} {K sh qs M : Nat → Nat} {o : Nat} (h0 : LI G τ f K sh qs M o) {H : Heap} {locs : List Loc} {ls : Array Slot} (h : hw D b0 s.heap f H locs) (hl : lv_has ls 7 [(4, .int i), (3, .ref o), (2, .ref (M 0)), (1, .ref (K 0)), (0, .ref b)]) {cells slots : Nat} (hc : cells + 49 ≤ 601024) (hs : slots + 4900 ≤ 7293034) {Q : State → Prop} (kk : ∀ (τ1 : Nat → Nat) (f1 : hM) (H1 : Heap) (locs1 : List Loc) (ls1 : Array Slot), LI G τ1 f1 K sh qs M o → hw D b0 s.heap f1 H1 locs1 → lv_has ls1 7 [(4, .int i), (3, .ref o), (2, .ref (M 0)), (1, .ref (K 0)), (0, .ref b)] → W p l e room_1 s m #[Value.ref b] below meth c H1 locs1 (cells + 49) (slots + 4900) Q (F0 m 2564 ls1 [])) : W p l e room_1 s m #[Value.ref b] below meth c H locs cells slots Q (F0 m 2155 ls []) := by
  obtain ⟨hx, hb, hr, hml, hown, hts0, hXs, hbl, hlk, hgv⟩ := id C0
  have hts : ∀ w ∈ wAll, w.before #[Value.ref b] s = true := fun w hw => hts0 w (wAll_tbl w hw)
  have C : hC p s m #[Value.ref b] meth c cL_law 7 RL D G b0 := ⟨hx, hb, hml, hown, hts, hE0, hlk⟩
  have hbA : ¬ hA b0 b := by rw [← hb0]; exact Nat.not_le.mpr hbl
  refine lv_aload_n hx hb dL_law_2155 rfl (lv_at hl 3 rfl) ?_
  refine law_arg (v := 1) hx hb hXs hbl hbA h.2.2.1 (hin 1 (by decide) (by decide)) (lv_at hl 0 rfl) (lv_at hl 4 rfl) (by decide) dL_law_2156 dL_law_2157 dL_law_2159 dL_law_2160 dL_law_2161 ?_
  refine law_arg (v := 2) hx hb hXs hbl hbA h.2.2.1 (hin 2 (by decide) (by decide)) (lv_at hl 0 rfl) (lv_at hl 4 rfl) (by decide) dL_law_2162 dL_law_2163 dL_law_2165 dL_law_2166 dL_law_2167 ?_
  refine law_arg (v := 3) hx hb hXs hbl hbA h.2.2.1 (hin 3 (by decide) (by decide)) (lv_at hl 0 rfl) (lv_at hl 4 rfl) (by decide) dL_law_2168 dL_law_2169 dL_law_2171 dL_law_2172 dL_law_2173 ?_
  refine law_arg (v := 4) hx hb hXs hbl hbA h.2.2.1 (hin 4 (by decide) (by decide)) (lv_at hl 0 rfl) (lv_at hl 4 rfl) (by decide) dL_law_2174 dL_law_2175 dL_law_2177 dL_law_2178 dL_law_2179 ?_
  obtain ⟨fs_, kc_⟩ := h0.cx
  refine k_i (r_V C h hl (As := [.int (xs (Int32.toNatClampNeg (i + 1))), .int (xs (Int32.toNatClampNeg (i + 2))), .int (xs (Int32.toNatClampNeg (i + 3))), .int (xs (Int32.toNatClampNeg (i + 4)))]) (rest := []) (lx_40 l D G b0 h0 _ _ _ _) kc_ (Cn := RX10) (T := TX10) (N := 10) rfl rfl mk_X10_fails w_1067 w_1068 w_1069 w_1070 ⟨Nat.le_of_ble_eq_true rfl, Nat.le_of_ble_eq_true rfl⟩ rfl (Nat.le_of_ble_eq_true rfl) ⟨law_c1 hc (Nat.le_of_ble_eq_true rfl), law_s1 hs (Nat.le_of_ble_eq_true rfl)⟩ rfl dL_law_2180) h (fun r2180 f H locs hp h => ?_)
  obtain ⟨τ, h0⟩ := hp
  refine lv_pop hx hb dL_law_2183 rfl ?_
  refine lv_aload_n hx hb dL_law_2184 rfl (lv_at hl 2 rfl) ?_
  refine law_arg (v := 1) hx hb hXs hbl hbA h.2.2.1 (hin 1 (by decide) (by decide)) (lv_at hl 0 rfl) (lv_at hl 4 rfl) (by decide) dL_law_2185 dL_law_2186 dL_law_2188 dL_law_2189 dL_law_2190 ?_
  refine law_arg (v := 2) hx hb hXs hbl hbA h.2.2.1 (hin 2 (by decide) (by decide)) (lv_at hl 0 rfl) (lv_at hl 4 rfl) (by decide) dL_law_2191 dL_law_2192 dL_law_2194 dL_law_2195 dL_law_2196 ?_
  refine law_arg (v := 3) hx hb hXs hbl hbA h.2.2.1 (hin 3 (by decide) (by decide)) (lv_at hl 0 rfl) (lv_at hl 4 rfl) (by decide) dL_law_2197 dL_law_2198 dL_law_2200 dL_law_2201 dL_law_2202 ?_
  refine law_arg (v := 4) hx hb hXs hbl hbA h.2.2.1 (hin 4 (by decide) (by decide)) (lv_at hl 0 rfl) (lv_at hl 4 rfl) (by decide) dL_law_2203 dL_law_2204 dL_law_2206 dL_law_2207 dL_law_2208 ?_
  obtain ⟨fs_, kc_⟩ := h0.cm
  refine k_i (r_V C h hl (As := [.int (xs (Int32.toNatClampNeg (i + 1))), .int (xs (Int32.toNatClampNeg (i + 2))), .int (xs (Int32.toNatClampNeg (i + 3))), .int (xs (Int32.toNatClampNeg (i + 4)))]) (rest := []) (lm_40 l D G b0 h0 _ _ _ _) kc_ (Cn := RX11) (T := TX11) (N := 32) rfl rfl mk_X11_fails_ w_1973 w_1974 w_1975 w_1976 ⟨Nat.le_of_ble_eq_true rfl, Nat.le_of_ble_eq_true rfl⟩ rfl (Nat.le_of_ble_eq_true rfl) ⟨law_c2 hc (Nat.le_of_ble_eq_true rfl), law_s2 hs (Nat.le_of_ble_eq_true rfl)⟩ rfl dL_law_2209) h (fun r2209 f H locs hp h => ?_)
  obtain ⟨τ, h0⟩ := hp
  refine lv_pop hx hb dL_law_2212 rfl ?_
  refine lv_goto (tgt := 2564) hx hb dL_law_2213 (by decide) ?_
  refine W.widen (k := cells + 49) (n := slots + 4900) (law_w (Nat.le_of_ble_eq_true rfl)) (law_w (Nat.le_of_ble_eq_true rfl)) ?_
  exact kk _ _ _ _ _ h0 h (lv_sub hl [0, 1, 2, 3, 4] rfl)
set_option maxRecDepth 100000 in
set_option maxHeartbeats 4000000 in
theorem law_41 {p : Program} {l : Launch} {e : Env} {s : State} {m : MethodId} {below : List Frame} {meth : Method} {c : Code} (hst : l.stackTraces = false) {b L : Nat} {xs : Nat → Int32} (C0 : lw_At p s m meth c b L xs) {D : va_G} {G : Nat → Nat} {b0 : Nat} (hb0 : s.heap.size = b0) (hE0 : hE D G b0 s s.heap) {i : Int32} (hin : ∀ k : Int32, 0 ≤ k.toInt → k.toInt ≤ 7 → vp_in (i + k) L) {τ : Nat → Nat} {f : hM} {K sh qs M : Nat → Nat} {o : Nat} (h0 : LI G τ f K sh qs M o) {H : Heap} {locs : List Loc} {ls : Array Slot} (h : hw D b0 s.heap f H locs) (hl : lv_has ls 7 [(4, .int i), (3, .ref o), (2, .ref (M 0)), (1, .ref (K 0)), (0, .ref b)]) {cells slots : Nat} (hc : cells + 49 ≤ 601024) (hs : slots + 4900 ≤ 7293034) {Q : State → Prop} (kk : ∀ (τ1 : Nat → Nat) (f1 : hM) (H1 : Heap) (locs1 : List Loc) (ls1 : Array Slot), LI G τ1 f1 K sh qs M o → hw D b0 s.heap f1 H1 locs1 → lv_has ls1 7 [(4, .int i), (3, .ref o), (2, .ref (M 0)), (1, .ref (K 0)), (0, .ref b)] → W p l e room_1 s m #[Value.ref b] below meth c H1 locs1 (cells + 49) (slots + 4900) Q (F0 m 2564 ls1 [])) : W p l e room_1 s m #[Value.ref b] below meth c H locs cells slots Q (F0 m 2216 ls []) := by
  obtain ⟨hx, hb, hr, hml, hown, hts0, hXs, hbl, hlk, hgv⟩ := id C0
  have hts : ∀ w ∈ wAll, w.before #[Value.ref b] s = true := fun w hw => hts0 w (wAll_tbl w hw)
  have C : hC p s m #[Value.ref b] meth c cL_law 7 RL D G b0 := ⟨hx, hb, hml, hown, hts, hE0, hlk⟩
  have hbA : ¬ hA b0 b := by rw [← hb0]; exact Nat.not_le.mpr hbl
  refine lv_aload_n hx hb dL_law_2216 rfl (lv_at hl 3 rfl) ?_
  refine law_arg (v := 1) hx hb hXs hbl hbA h.2.2.1 (hin 1 (by decide) (by decide)) (lv_at hl 0 rfl) (lv_at hl 4 rfl) (by decide) dL_law_2217 dL_law_2218 dL_law_2220 dL_law_2221 dL_law_2222 ?_
  refine law_arg (v := 2) hx hb hXs hbl hbA h.2.2.1 (hin 2 (by decide) (by decide)) (lv_at hl 0 rfl) (lv_at hl 4 rfl) (by decide) dL_law_2223 dL_law_2224 dL_law_2226 dL_law_2227 dL_law_2228 ?_
  refine law_arg (v := 3) hx hb hXs hbl hbA h.2.2.1 (hin 3 (by decide) (by decide)) (lv_at hl 0 rfl) (lv_at hl 4 rfl) (by decide) dL_law_2229 dL_law_2230 dL_law_2232 dL_law_2233 dL_law_2234 ?_
  refine law_arg (v := 4) hx hb hXs hbl hbA h.2.2.1 (hin 4 (by decide) (by decide)) (lv_at hl 0 rfl) (lv_at hl 4 rfl) (by decide) dL_law_2235 dL_law_2236 dL_law_2238 dL_law_2239 dL_law_2240 ?_
  refine law_arg (v := 5) hx hb hXs hbl hbA h.2.2.1 (hin 5 (by decide) (by decide)) (lv_at hl 0 rfl) (lv_at hl 4 rfl) (by decide) dL_law_2241 dL_law_2242 dL_law_2244 dL_law_2245 dL_law_2246 ?_
  refine lv_aload_n hx hb dL_law_2247 rfl (lv_at hl 4 rfl) ?_
  refine lv_iload hx hb dL_law_2248 (lv_at hl 0 rfl) ?_
  refine lv_bipush (v := 6) hx hb dL_law_2250 (by decide) ?_
  refine lv_iadd hx hb dL_law_2252 ?_
  refine va_sld hx hb hXs hbl hbA h.2.2.1 (hin 6 (by decide) (by decide)) dL_law_2253 ?_
  obtain ⟨fs_, kc_⟩ := h0.cx
  refine k_i (r_V C h hl (As := [.int (xs (Int32.toNatClampNeg (i + 1))), .int (xs (Int32.toNatClampNeg (i + 2))), .int (xs (Int32.toNatClampNeg (i + 3))), .int (xs (Int32.toNatClampNeg (i + 4))), .int (xs (Int32.toNatClampNeg (i + 5))), .int (xs (Int32.toNatClampNeg (i + 6)))]) (rest := []) (lx_41 l D G b0 h0 _ _ _ _ _ _) kc_ (Cn := RX10) (T := TX10) (N := 10) rfl rfl mk_X10_equation w_1079 w_1080 w_1081 w_1082 ⟨Nat.le_of_ble_eq_true rfl, Nat.le_of_ble_eq_true rfl⟩ rfl (Nat.le_of_ble_eq_true rfl) ⟨law_c1 hc (Nat.le_of_ble_eq_true rfl), law_s1 hs (Nat.le_of_ble_eq_true rfl)⟩ rfl dL_law_2254) h (fun r2254 f H locs hp h => ?_)
  obtain ⟨τ, h0⟩ := hp
  refine lv_pop hx hb dL_law_2257 rfl ?_
  refine lv_aload_n hx hb dL_law_2258 rfl (lv_at hl 2 rfl) ?_
  refine law_arg (v := 1) hx hb hXs hbl hbA h.2.2.1 (hin 1 (by decide) (by decide)) (lv_at hl 0 rfl) (lv_at hl 4 rfl) (by decide) dL_law_2259 dL_law_2260 dL_law_2262 dL_law_2263 dL_law_2264 ?_
  refine law_arg (v := 2) hx hb hXs hbl hbA h.2.2.1 (hin 2 (by decide) (by decide)) (lv_at hl 0 rfl) (lv_at hl 4 rfl) (by decide) dL_law_2265 dL_law_2266 dL_law_2268 dL_law_2269 dL_law_2270 ?_
  refine law_arg (v := 3) hx hb hXs hbl hbA h.2.2.1 (hin 3 (by decide) (by decide)) (lv_at hl 0 rfl) (lv_at hl 4 rfl) (by decide) dL_law_2271 dL_law_2272 dL_law_2274 dL_law_2275 dL_law_2276 ?_
  refine law_arg (v := 4) hx hb hXs hbl hbA h.2.2.1 (hin 4 (by decide) (by decide)) (lv_at hl 0 rfl) (lv_at hl 4 rfl) (by decide) dL_law_2277 dL_law_2278 dL_law_2280 dL_law_2281 dL_law_2282 ?_
  refine law_arg (v := 5) hx hb hXs hbl hbA h.2.2.1 (hin 5 (by decide) (by decide)) (lv_at hl 0 rfl) (lv_at hl 4 rfl) (by decide) dL_law_2283 dL_law_2284 dL_law_2286 dL_law_2287 dL_law_2288 ?_
  refine lv_aload_n hx hb dL_law_2289 rfl (lv_at hl 4 rfl) ?_
  refine lv_iload hx hb dL_law_2290 (lv_at hl 0 rfl) ?_
  refine lv_bipush (v := 6) hx hb dL_law_2292 (by decide) ?_
  refine lv_iadd hx hb dL_law_2294 ?_
  refine va_sld hx hb hXs hbl hbA h.2.2.1 (hin 6 (by decide) (by decide)) dL_law_2295 ?_
  obtain ⟨fs_, kc_⟩ := h0.cm
  refine k_i (r_V C h hl (As := [.int (xs (Int32.toNatClampNeg (i + 1))), .int (xs (Int32.toNatClampNeg (i + 2))), .int (xs (Int32.toNatClampNeg (i + 3))), .int (xs (Int32.toNatClampNeg (i + 4))), .int (xs (Int32.toNatClampNeg (i + 5))), .int (xs (Int32.toNatClampNeg (i + 6)))]) (rest := []) (lm_41 l D G b0 h0 _ _ _ _ _ _) kc_ (Cn := RX11) (T := TX11) (N := 32) rfl rfl mk_X11_equation w_1985 w_1986 w_1987 w_1988 ⟨Nat.le_of_ble_eq_true rfl, Nat.le_of_ble_eq_true rfl⟩ rfl (Nat.le_of_ble_eq_true rfl) ⟨law_c2 hc (Nat.le_of_ble_eq_true rfl), law_s2 hs (Nat.le_of_ble_eq_true rfl)⟩ rfl dL_law_2296) h (fun r2296 f H locs hp h => ?_)
  obtain ⟨τ, h0⟩ := hp
  refine lv_pop hx hb dL_law_2299 rfl ?_
  refine lv_goto (tgt := 2564) hx hb dL_law_2300 (by decide) ?_
  refine W.widen (k := cells + 49) (n := slots + 4900) (law_w (Nat.le_of_ble_eq_true rfl)) (law_w (Nat.le_of_ble_eq_true rfl)) ?_
  exact kk _ _ _ _ _ h0 h (lv_sub hl [0, 1, 2, 3, 4] rfl)
set_option maxRecDepth 100000 in
set_option maxHeartbeats 4000000 in
theorem law_42 {p : Program} {l : Launch} {e : Env} {s : State} {m : MethodId} {below : List Frame} {meth : Method} {c : Code} (hst : l.stackTraces = false) {b L : Nat} {xs : Nat → Int32} (C0 : lw_At p s m meth c b L xs) {D : va_G} {G : Nat → Nat} {b0 : Nat} (hb0 : s.heap.size = b0) (hE0 : hE D G b0 s s.heap) {i : Int32} (hin : ∀ k : Int32, 0 ≤ k.toInt → k.toInt ≤ 7 → vp_in (i + k) L) {τ : Nat → Nat} {f : hM} {K sh qs M : Nat → Nat} {o : Nat} (h0 : LI G τ f K sh qs M o) {H : Heap} {locs : List Loc} {ls : Array Slot} (h : hw D b0 s.heap f H locs) (hl : lv_has ls 7 [(4, .int i), (3, .ref o), (2, .ref (M 0)), (1, .ref (K 0)), (0, .ref b)]) {cells slots : Nat} (hc : cells + 49 ≤ 601024) (hs : slots + 4900 ≤ 7293034) {Q : State → Prop} (kk : ∀ (τ1 : Nat → Nat) (f1 : hM) (H1 : Heap) (locs1 : List Loc) (ls1 : Array Slot), LI G τ1 f1 K sh qs M o → hw D b0 s.heap f1 H1 locs1 → lv_has ls1 7 [(4, .int i), (3, .ref o), (2, .ref (M 0)), (1, .ref (K 0)), (0, .ref b)] → W p l e room_1 s m #[Value.ref b] below meth c H1 locs1 (cells + 49) (slots + 4900) Q (F0 m 2564 ls1 [])) : W p l e room_1 s m #[Value.ref b] below meth c H locs cells slots Q (F0 m 2303 ls []) := by
  obtain ⟨hx, hb, hr, hml, hown, hts0, hXs, hbl, hlk, hgv⟩ := id C0
  have hts : ∀ w ∈ wAll, w.before #[Value.ref b] s = true := fun w hw => hts0 w (wAll_tbl w hw)
  have C : hC p s m #[Value.ref b] meth c cL_law 7 RL D G b0 := ⟨hx, hb, hml, hown, hts, hE0, hlk⟩
  have hbA : ¬ hA b0 b := by rw [← hb0]; exact Nat.not_le.mpr hbl
  refine lv_aload_n hx hb dL_law_2303 rfl (lv_at hl 3 rfl) ?_
  refine law_arg (v := 1) hx hb hXs hbl hbA h.2.2.1 (hin 1 (by decide) (by decide)) (lv_at hl 0 rfl) (lv_at hl 4 rfl) (by decide) dL_law_2304 dL_law_2305 dL_law_2307 dL_law_2308 dL_law_2309 ?_
  refine law_arg (v := 2) hx hb hXs hbl hbA h.2.2.1 (hin 2 (by decide) (by decide)) (lv_at hl 0 rfl) (lv_at hl 4 rfl) (by decide) dL_law_2310 dL_law_2311 dL_law_2313 dL_law_2314 dL_law_2315 ?_
  refine law_arg (v := 3) hx hb hXs hbl hbA h.2.2.1 (hin 3 (by decide) (by decide)) (lv_at hl 0 rfl) (lv_at hl 4 rfl) (by decide) dL_law_2316 dL_law_2317 dL_law_2319 dL_law_2320 dL_law_2321 ?_
  refine law_arg (v := 4) hx hb hXs hbl hbA h.2.2.1 (hin 4 (by decide) (by decide)) (lv_at hl 0 rfl) (lv_at hl 4 rfl) (by decide) dL_law_2322 dL_law_2323 dL_law_2325 dL_law_2326 dL_law_2327 ?_
  obtain ⟨fs_, kc_⟩ := h0.cx
  refine k_i (r_V C h hl (As := [.int (xs (Int32.toNatClampNeg (i + 1))), .int (xs (Int32.toNatClampNeg (i + 2))), .int (xs (Int32.toNatClampNeg (i + 3))), .int (xs (Int32.toNatClampNeg (i + 4)))]) (rest := []) (lx_42 l D G b0 h0 _ _ _ _) kc_ (Cn := RX10) (T := TX10) (N := 10) rfl rfl mk_X10_breaks w_1083 w_1084 w_1085 w_1086 ⟨Nat.le_of_ble_eq_true rfl, Nat.le_of_ble_eq_true rfl⟩ rfl (Nat.le_of_ble_eq_true rfl) ⟨law_c1 hc (Nat.le_of_ble_eq_true rfl), law_s1 hs (Nat.le_of_ble_eq_true rfl)⟩ rfl dL_law_2328) h (fun r2328 f H locs hp h => ?_)
  obtain ⟨τ, h0⟩ := hp
  refine lv_pop hx hb dL_law_2331 rfl ?_
  refine lv_aload_n hx hb dL_law_2332 rfl (lv_at hl 2 rfl) ?_
  refine law_arg (v := 1) hx hb hXs hbl hbA h.2.2.1 (hin 1 (by decide) (by decide)) (lv_at hl 0 rfl) (lv_at hl 4 rfl) (by decide) dL_law_2333 dL_law_2334 dL_law_2336 dL_law_2337 dL_law_2338 ?_
  refine law_arg (v := 2) hx hb hXs hbl hbA h.2.2.1 (hin 2 (by decide) (by decide)) (lv_at hl 0 rfl) (lv_at hl 4 rfl) (by decide) dL_law_2339 dL_law_2340 dL_law_2342 dL_law_2343 dL_law_2344 ?_
  refine law_arg (v := 3) hx hb hXs hbl hbA h.2.2.1 (hin 3 (by decide) (by decide)) (lv_at hl 0 rfl) (lv_at hl 4 rfl) (by decide) dL_law_2345 dL_law_2346 dL_law_2348 dL_law_2349 dL_law_2350 ?_
  refine law_arg (v := 4) hx hb hXs hbl hbA h.2.2.1 (hin 4 (by decide) (by decide)) (lv_at hl 0 rfl) (lv_at hl 4 rfl) (by decide) dL_law_2351 dL_law_2352 dL_law_2354 dL_law_2355 dL_law_2356 ?_
  obtain ⟨fs_, kc_⟩ := h0.cm
  refine k_i (r_V C h hl (As := [.int (xs (Int32.toNatClampNeg (i + 1))), .int (xs (Int32.toNatClampNeg (i + 2))), .int (xs (Int32.toNatClampNeg (i + 3))), .int (xs (Int32.toNatClampNeg (i + 4)))]) (rest := []) (lm_42 l D G b0 h0 _ _ _ _) kc_ (Cn := RX11) (T := TX11) (N := 32) rfl rfl mk_X11_breaks w_1989 w_1990 w_1991 w_1992 ⟨Nat.le_of_ble_eq_true rfl, Nat.le_of_ble_eq_true rfl⟩ rfl (Nat.le_of_ble_eq_true rfl) ⟨law_c2 hc (Nat.le_of_ble_eq_true rfl), law_s2 hs (Nat.le_of_ble_eq_true rfl)⟩ rfl dL_law_2357) h (fun r2357 f H locs hp h => ?_)
  obtain ⟨τ, h0⟩ := hp
  refine lv_pop hx hb dL_law_2360 rfl ?_
  refine lv_goto (tgt := 2564) hx hb dL_law_2361 (by decide) ?_
  refine W.widen (k := cells + 49) (n := slots + 4900) (law_w (Nat.le_of_ble_eq_true rfl)) (law_w (Nat.le_of_ble_eq_true rfl)) ?_
  exact kk _ _ _ _ _ h0 h (lv_sub hl [0, 1, 2, 3, 4] rfl)
set_option maxRecDepth 100000 in
set_option maxHeartbeats 4000000 in
theorem law_43 {p : Program} {l : Launch} {e : Env} {s : State} {m : MethodId} {below : List Frame} {meth : Method} {c : Code} (hst : l.stackTraces = false) {b L : Nat} {xs : Nat → Int32} (C0 : lw_At p s m meth c b L xs) {D : va_G} {G : Nat → Nat} {b0 : Nat} (hb0 : s.heap.size = b0) (hE0 : hE D G b0 s s.heap) {i : Int32} (hin : ∀ k : Int32, 0 ≤ k.toInt → k.toInt ≤ 7 → vp_in (i + k) L) {τ : Nat → Nat} {f : hM} {K sh qs M : Nat → Nat} {o : Nat} (h0 : LI G τ f K sh qs M o) {H : Heap} {locs : List Loc} {ls : Array Slot} (h : hw D b0 s.heap f H locs) (hl : lv_has ls 7 [(4, .int i), (3, .ref o), (2, .ref (M 0)), (1, .ref (K 0)), (0, .ref b)]) {cells slots : Nat} (hc : cells + 49 ≤ 601024) (hs : slots + 4900 ≤ 7293034) {Q : State → Prop} (kk : ∀ (τ1 : Nat → Nat) (f1 : hM) (H1 : Heap) (locs1 : List Loc) (ls1 : Array Slot), LI G τ1 f1 K sh qs M o → hw D b0 s.heap f1 H1 locs1 → lv_has ls1 7 [(4, .int i), (3, .ref o), (2, .ref (M 0)), (1, .ref (K 0)), (0, .ref b)] → W p l e room_1 s m #[Value.ref b] below meth c H1 locs1 (cells + 49) (slots + 4900) Q (F0 m 2564 ls1 [])) : W p l e room_1 s m #[Value.ref b] below meth c H locs cells slots Q (F0 m 2364 ls []) := by
  obtain ⟨hx, hb, hr, hml, hown, hts0, hXs, hbl, hlk, hgv⟩ := id C0
  have hts : ∀ w ∈ wAll, w.before #[Value.ref b] s = true := fun w hw => hts0 w (wAll_tbl w hw)
  have C : hC p s m #[Value.ref b] meth c cL_law 7 RL D G b0 := ⟨hx, hb, hml, hown, hts, hE0, hlk⟩
  have hbA : ¬ hA b0 b := by rw [← hb0]; exact Nat.not_le.mpr hbl
  refine lv_aload_n hx hb dL_law_2364 rfl (lv_at hl 3 rfl) ?_
  refine law_arg (v := 1) hx hb hXs hbl hbA h.2.2.1 (hin 1 (by decide) (by decide)) (lv_at hl 0 rfl) (lv_at hl 4 rfl) (by decide) dL_law_2365 dL_law_2366 dL_law_2368 dL_law_2369 dL_law_2370 ?_
  refine law_arg (v := 2) hx hb hXs hbl hbA h.2.2.1 (hin 2 (by decide) (by decide)) (lv_at hl 0 rfl) (lv_at hl 4 rfl) (by decide) dL_law_2371 dL_law_2372 dL_law_2374 dL_law_2375 dL_law_2376 ?_
  refine law_arg (v := 3) hx hb hXs hbl hbA h.2.2.1 (hin 3 (by decide) (by decide)) (lv_at hl 0 rfl) (lv_at hl 4 rfl) (by decide) dL_law_2377 dL_law_2378 dL_law_2380 dL_law_2381 dL_law_2382 ?_
  obtain ⟨fs_, kc_⟩ := h0.cx
  refine k_i (r_V C h hl (As := [.int (xs (Int32.toNatClampNeg (i + 1))), .int (xs (Int32.toNatClampNeg (i + 2))), .int (xs (Int32.toNatClampNeg (i + 3)))]) (rest := []) (lx_43 l D G b0 h0 _ _ _) kc_ (Cn := RX10) (T := TX10) (N := 10) rfl rfl mk_X10_least w_1087 w_1088 w_1089 w_1090 ⟨Nat.le_of_ble_eq_true rfl, Nat.le_of_ble_eq_true rfl⟩ rfl (Nat.le_of_ble_eq_true rfl) ⟨law_c1 hc (Nat.le_of_ble_eq_true rfl), law_s1 hs (Nat.le_of_ble_eq_true rfl)⟩ rfl dL_law_2383) h (fun r2383 f H locs hp h => ?_)
  obtain ⟨τ, h0⟩ := hp
  refine lv_pop hx hb dL_law_2386 rfl ?_
  refine lv_aload_n hx hb dL_law_2387 rfl (lv_at hl 2 rfl) ?_
  refine law_arg (v := 1) hx hb hXs hbl hbA h.2.2.1 (hin 1 (by decide) (by decide)) (lv_at hl 0 rfl) (lv_at hl 4 rfl) (by decide) dL_law_2388 dL_law_2389 dL_law_2391 dL_law_2392 dL_law_2393 ?_
  refine law_arg (v := 2) hx hb hXs hbl hbA h.2.2.1 (hin 2 (by decide) (by decide)) (lv_at hl 0 rfl) (lv_at hl 4 rfl) (by decide) dL_law_2394 dL_law_2395 dL_law_2397 dL_law_2398 dL_law_2399 ?_
  refine law_arg (v := 3) hx hb hXs hbl hbA h.2.2.1 (hin 3 (by decide) (by decide)) (lv_at hl 0 rfl) (lv_at hl 4 rfl) (by decide) dL_law_2400 dL_law_2401 dL_law_2403 dL_law_2404 dL_law_2405 ?_
  obtain ⟨fs_, kc_⟩ := h0.cm
  refine k_i (r_V C h hl (As := [.int (xs (Int32.toNatClampNeg (i + 1))), .int (xs (Int32.toNatClampNeg (i + 2))), .int (xs (Int32.toNatClampNeg (i + 3)))]) (rest := []) (lm_43 l D G b0 h0 _ _ _) kc_ (Cn := RX11) (T := TX11) (N := 32) rfl rfl mk_X11_least w_1993 w_1994 w_1995 w_1996 ⟨Nat.le_of_ble_eq_true rfl, Nat.le_of_ble_eq_true rfl⟩ rfl (Nat.le_of_ble_eq_true rfl) ⟨law_c2 hc (Nat.le_of_ble_eq_true rfl), law_s2 hs (Nat.le_of_ble_eq_true rfl)⟩ rfl dL_law_2406) h (fun r2406 f H locs hp h => ?_)
  obtain ⟨τ, h0⟩ := hp
  refine lv_pop hx hb dL_law_2409 rfl ?_
  refine lv_goto (tgt := 2564) hx hb dL_law_2410 (by decide) ?_
  refine W.widen (k := cells + 49) (n := slots + 4900) (law_w (Nat.le_of_ble_eq_true rfl)) (law_w (Nat.le_of_ble_eq_true rfl)) ?_
  exact kk _ _ _ _ _ h0 h (lv_sub hl [0, 1, 2, 3, 4] rfl)
set_option maxRecDepth 100000 in
set_option maxHeartbeats 4000000 in
theorem law_44 {p : Program} {l : Launch} {e : Env} {s : State} {m : MethodId} {below : List Frame} {meth : Method} {c : Code} (hst : l.stackTraces = false) {b L : Nat} {xs : Nat → Int32} (C0 : lw_At p s m meth c b L xs) {D : va_G} {G : Nat → Nat} {b0 : Nat} (hb0 : s.heap.size = b0) (hE0 : hE D G b0 s s.heap) {i : Int32} (hin : ∀ k : Int32, 0 ≤ k.toInt → k.toInt ≤ 7 → vp_in (i + k) L) {τ : Nat → Nat} {f : hM} {K sh qs M : Nat → Nat} {o : Nat} (h0 : LI G τ f K sh qs M o) {H : Heap} {locs : List Loc} {ls : Array Slot} (h : hw D b0 s.heap f H locs) (hl : lv_has ls 7 [(4, .int i), (3, .ref o), (2, .ref (M 0)), (1, .ref (K 0)), (0, .ref b)]) {cells slots : Nat} (hc : cells + 49 ≤ 601024) (hs : slots + 4900 ≤ 7293034) {Q : State → Prop} (kk : ∀ (τ1 : Nat → Nat) (f1 : hM) (H1 : Heap) (locs1 : List Loc) (ls1 : Array Slot), LI G τ1 f1 K sh qs M o → hw D b0 s.heap f1 H1 locs1 → lv_has ls1 7 [(4, .int i), (3, .ref o), (2, .ref (M 0)), (1, .ref (K 0)), (0, .ref b)] → W p l e room_1 s m #[Value.ref b] below meth c H1 locs1 (cells + 49) (slots + 4900) Q (F0 m 2564 ls1 [])) : W p l e room_1 s m #[Value.ref b] below meth c H locs cells slots Q (F0 m 2413 ls []) := by
  obtain ⟨hx, hb, hr, hml, hown, hts0, hXs, hbl, hlk, hgv⟩ := id C0
  have hts : ∀ w ∈ wAll, w.before #[Value.ref b] s = true := fun w hw => hts0 w (wAll_tbl w hw)
  have C : hC p s m #[Value.ref b] meth c cL_law 7 RL D G b0 := ⟨hx, hb, hml, hown, hts, hE0, hlk⟩
  have hbA : ¬ hA b0 b := by rw [← hb0]; exact Nat.not_le.mpr hbl
  refine lv_aload_n hx hb dL_law_2413 rfl (lv_at hl 3 rfl) ?_
  refine law_arg (v := 1) hx hb hXs hbl hbA h.2.2.1 (hin 1 (by decide) (by decide)) (lv_at hl 0 rfl) (lv_at hl 4 rfl) (by decide) dL_law_2414 dL_law_2415 dL_law_2417 dL_law_2418 dL_law_2419 ?_
  refine law_arg (v := 2) hx hb hXs hbl hbA h.2.2.1 (hin 2 (by decide) (by decide)) (lv_at hl 0 rfl) (lv_at hl 4 rfl) (by decide) dL_law_2420 dL_law_2421 dL_law_2423 dL_law_2424 dL_law_2425 ?_
  obtain ⟨fs_, kc_⟩ := h0.cx
  refine k_i (r_V C h hl (As := [.int (xs (Int32.toNatClampNeg (i + 1))), .int (xs (Int32.toNatClampNeg (i + 2)))]) (rest := []) (lx_44 l D G b0 h0 _ _) kc_ (Cn := RX10) (T := TX10) (N := 10) rfl rfl mk_X10_written w_1096 w_1097 w_1098 w_1099 ⟨Nat.le_of_ble_eq_true rfl, Nat.le_of_ble_eq_true rfl⟩ rfl (Nat.le_of_ble_eq_true rfl) ⟨law_c1 hc (Nat.le_of_ble_eq_true rfl), law_s1 hs (Nat.le_of_ble_eq_true rfl)⟩ rfl dL_law_2426) h (fun r2426 f H locs hp h => ?_)
  obtain ⟨τ, h0⟩ := hp
  refine lv_pop hx hb dL_law_2429 rfl ?_
  refine lv_aload_n hx hb dL_law_2430 rfl (lv_at hl 2 rfl) ?_
  refine law_arg (v := 1) hx hb hXs hbl hbA h.2.2.1 (hin 1 (by decide) (by decide)) (lv_at hl 0 rfl) (lv_at hl 4 rfl) (by decide) dL_law_2431 dL_law_2432 dL_law_2434 dL_law_2435 dL_law_2436 ?_
  refine law_arg (v := 2) hx hb hXs hbl hbA h.2.2.1 (hin 2 (by decide) (by decide)) (lv_at hl 0 rfl) (lv_at hl 4 rfl) (by decide) dL_law_2437 dL_law_2438 dL_law_2440 dL_law_2441 dL_law_2442 ?_
  obtain ⟨fs_, kc_⟩ := h0.cm
  refine k_i (r_V C h hl (As := [.int (xs (Int32.toNatClampNeg (i + 1))), .int (xs (Int32.toNatClampNeg (i + 2)))]) (rest := []) (lm_44 l D G b0 h0 _ _) kc_ (Cn := RX11) (T := TX11) (N := 32) rfl rfl mk_X11_written w_1997 w_1998 w_1999 w_2000 ⟨Nat.le_of_ble_eq_true rfl, Nat.le_of_ble_eq_true rfl⟩ rfl (Nat.le_of_ble_eq_true rfl) ⟨law_c2 hc (Nat.le_of_ble_eq_true rfl), law_s2 hs (Nat.le_of_ble_eq_true rfl)⟩ rfl dL_law_2443) h (fun r2443 f H locs hp h => ?_)
  obtain ⟨τ, h0⟩ := hp
  refine lv_pop hx hb dL_law_2446 rfl ?_
  refine lv_goto (tgt := 2564) hx hb dL_law_2447 (by decide) ?_
  refine W.widen (k := cells + 49) (n := slots + 4900) (law_w (Nat.le_of_ble_eq_true rfl)) (law_w (Nat.le_of_ble_eq_true rfl)) ?_
  exact kk _ _ _ _ _ h0 h (lv_sub hl [0, 1, 2, 3, 4] rfl)
set_option maxRecDepth 100000 in
set_option maxHeartbeats 4000000 in
theorem law_45 {p : Program} {l : Launch} {e : Env} {s : State} {m : MethodId} {below : List Frame} {meth : Method} {c : Code} (hst : l.stackTraces = false) {b L : Nat} {xs : Nat → Int32} (C0 : lw_At p s m meth c b L xs) {D : va_G} {G : Nat → Nat} {b0 : Nat} (hb0 : s.heap.size = b0) (hE0 : hE D G b0 s s.heap) {i : Int32} (hin : ∀ k : Int32, 0 ≤ k.toInt → k.toInt ≤ 7 → vp_in (i + k) L) {τ : Nat → Nat} {f : hM} {K sh qs M : Nat → Nat} {o : Nat} (h0 : LI G τ f K sh qs M o) {H : Heap} {locs : List Loc} {ls : Array Slot} (h : hw D b0 s.heap f H locs) (hl : lv_has ls 7 [(4, .int i), (3, .ref o), (2, .ref (M 0)), (1, .ref (K 0)), (0, .ref b)]) {cells slots : Nat} (hc : cells + 49 ≤ 601024) (hs : slots + 4900 ≤ 7293034) {Q : State → Prop} (kk : ∀ (τ1 : Nat → Nat) (f1 : hM) (H1 : Heap) (locs1 : List Loc) (ls1 : Array Slot), LI G τ1 f1 K sh qs M o → hw D b0 s.heap f1 H1 locs1 → lv_has ls1 7 [(4, .int i), (3, .ref o), (2, .ref (M 0)), (1, .ref (K 0)), (0, .ref b)] → W p l e room_1 s m #[Value.ref b] below meth c H1 locs1 (cells + 49) (slots + 4900) Q (F0 m 2564 ls1 [])) : W p l e room_1 s m #[Value.ref b] below meth c H locs cells slots Q (F0 m 2450 ls []) := by
  obtain ⟨hx, hb, hr, hml, hown, hts0, hXs, hbl, hlk, hgv⟩ := id C0
  have hts : ∀ w ∈ wAll, w.before #[Value.ref b] s = true := fun w hw => hts0 w (wAll_tbl w hw)
  have C : hC p s m #[Value.ref b] meth c cL_law 7 RL D G b0 := ⟨hx, hb, hml, hown, hts, hE0, hlk⟩
  have hbA : ¬ hA b0 b := by rw [← hb0]; exact Nat.not_le.mpr hbl
  refine lv_aload_n hx hb dL_law_2450 rfl (lv_at hl 3 rfl) ?_
  obtain ⟨fs_, kc_⟩ := h0.cx
  refine k_i (r_V C h hl (As := []) (rest := []) (lx_45 l D G b0 h0) kc_ (Cn := RX10) (T := TX10) (N := 10) rfl rfl mk_X10_undo w_1285 w_1286 w_1287 w_1288 ⟨Nat.le_of_ble_eq_true rfl, Nat.le_of_ble_eq_true rfl⟩ rfl (Nat.le_of_ble_eq_true rfl) ⟨law_c1 hc (Nat.le_of_ble_eq_true rfl), law_s1 hs (Nat.le_of_ble_eq_true rfl)⟩ rfl dL_law_2451) h (fun r2451 f H locs hp h => ?_)
  obtain ⟨τ, h0⟩ := hp
  refine lv_pop hx hb dL_law_2454 rfl ?_
  refine lv_aload_n hx hb dL_law_2455 rfl (lv_at hl 2 rfl) ?_
  obtain ⟨fs_, kc_⟩ := h0.cm
  refine k_i (r_V C h hl (As := []) (rest := []) (lm_45 l D G b0 h0) kc_ (Cn := RX11) (T := TX11) (N := 32) rfl rfl mk_X11_undo w_2018 w_2019 w_2020 w_2021 ⟨Nat.le_of_ble_eq_true rfl, Nat.le_of_ble_eq_true rfl⟩ rfl (Nat.le_of_ble_eq_true rfl) ⟨law_c2 hc (Nat.le_of_ble_eq_true rfl), law_s2 hs (Nat.le_of_ble_eq_true rfl)⟩ rfl dL_law_2456) h (fun r2456 f H locs hp h => ?_)
  obtain ⟨τ, h0⟩ := hp
  refine lv_pop hx hb dL_law_2459 rfl ?_
  refine lv_goto (tgt := 2564) hx hb dL_law_2460 (by decide) ?_
  refine W.widen (k := cells + 49) (n := slots + 4900) (law_w (Nat.le_of_ble_eq_true rfl)) (law_w (Nat.le_of_ble_eq_true rfl)) ?_
  exact kk _ _ _ _ _ h0 h (lv_sub hl [0, 1, 2, 3, 4] rfl)
set_option maxRecDepth 100000 in
set_option maxHeartbeats 4000000 in
theorem law_46 {p : Program} {l : Launch} {e : Env} {s : State} {m : MethodId} {below : List Frame} {meth : Method} {c : Code} (hst : l.stackTraces = false) {b L : Nat} {xs : Nat → Int32} (C0 : lw_At p s m meth c b L xs) {D : va_G} {G : Nat → Nat} {b0 : Nat} (hb0 : s.heap.size = b0) (hE0 : hE D G b0 s s.heap) {i : Int32} (hin : ∀ k : Int32, 0 ≤ k.toInt → k.toInt ≤ 7 → vp_in (i + k) L) {τ : Nat → Nat} {f : hM} {K sh qs M : Nat → Nat} {o : Nat} (h0 : LI G τ f K sh qs M o) {H : Heap} {locs : List Loc} {ls : Array Slot} (h : hw D b0 s.heap f H locs) (hl : lv_has ls 7 [(4, .int i), (3, .ref o), (2, .ref (M 0)), (1, .ref (K 0)), (0, .ref b)]) {cells slots : Nat} (hc : cells + 49 ≤ 601024) (hs : slots + 4900 ≤ 7293034) {Q : State → Prop} (kk : ∀ (τ1 : Nat → Nat) (f1 : hM) (H1 : Heap) (locs1 : List Loc) (ls1 : Array Slot), LI G τ1 f1 K sh qs M o → hw D b0 s.heap f1 H1 locs1 → lv_has ls1 7 [(4, .int i), (3, .ref o), (2, .ref (M 0)), (1, .ref (K 0)), (0, .ref b)] → W p l e room_1 s m #[Value.ref b] below meth c H1 locs1 (cells + 49) (slots + 4900) Q (F0 m 2564 ls1 [])) : W p l e room_1 s m #[Value.ref b] below meth c H locs cells slots Q (F0 m 2463 ls []) := by
  obtain ⟨hx, hb, hr, hml, hown, hts0, hXs, hbl, hlk, hgv⟩ := id C0
  have hts : ∀ w ∈ wAll, w.before #[Value.ref b] s = true := fun w hw => hts0 w (wAll_tbl w hw)
  have C : hC p s m #[Value.ref b] meth c cL_law 7 RL D G b0 := ⟨hx, hb, hml, hown, hts, hE0, hlk⟩
  have hbA : ¬ hA b0 b := by rw [← hb0]; exact Nat.not_le.mpr hbl
  refine lv_aload_n hx hb dL_law_2463 rfl (lv_at hl 3 rfl) ?_
  obtain ⟨fs_, kc_⟩ := h0.cx
  refine k_i (r_V C h hl (As := []) (rest := []) (lx_46 l D G b0 h0) kc_ (Cn := RX10) (T := TX10) (N := 10) rfl rfl mk_X10_image w_1293 w_1294 w_1295 w_1296 ⟨Nat.le_of_ble_eq_true rfl, Nat.le_of_ble_eq_true rfl⟩ rfl (Nat.le_of_ble_eq_true rfl) ⟨law_c1 hc (Nat.le_of_ble_eq_true rfl), law_s1 hs (Nat.le_of_ble_eq_true rfl)⟩ rfl dL_law_2464) h (fun r2464 f H locs hp h => ?_)
  obtain ⟨τ, h0⟩ := hp
  refine lv_pop hx hb dL_law_2467 rfl ?_
  refine lv_aload_n hx hb dL_law_2468 rfl (lv_at hl 2 rfl) ?_
  obtain ⟨fs_, kc_⟩ := h0.cm
  refine k_i (r_V C h hl (As := []) (rest := []) (lm_46 l D G b0 h0) kc_ (Cn := RX11) (T := TX11) (N := 32) rfl rfl mk_X11_image w_2022 w_2023 w_2024 w_2025 ⟨Nat.le_of_ble_eq_true rfl, Nat.le_of_ble_eq_true rfl⟩ rfl (Nat.le_of_ble_eq_true rfl) ⟨law_c2 hc (Nat.le_of_ble_eq_true rfl), law_s2 hs (Nat.le_of_ble_eq_true rfl)⟩ rfl dL_law_2469) h (fun r2469 f H locs hp h => ?_)
  obtain ⟨τ, h0⟩ := hp
  refine lv_pop hx hb dL_law_2472 rfl ?_
  refine lv_goto (tgt := 2564) hx hb dL_law_2473 (by decide) ?_
  refine W.widen (k := cells + 49) (n := slots + 4900) (law_w (Nat.le_of_ble_eq_true rfl)) (law_w (Nat.le_of_ble_eq_true rfl)) ?_
  exact kk _ _ _ _ _ h0 h (lv_sub hl [0, 1, 2, 3, 4] rfl)
set_option maxRecDepth 100000 in
set_option maxHeartbeats 4000000 in
theorem law_47 {p : Program} {l : Launch} {e : Env} {s : State} {m : MethodId} {below : List Frame} {meth : Method} {c : Code} (hst : l.stackTraces = false) {b L : Nat} {xs : Nat → Int32} (C0 : lw_At p s m meth c b L xs) {D : va_G} {G : Nat → Nat} {b0 : Nat} (hb0 : s.heap.size = b0) (hE0 : hE D G b0 s s.heap) {i : Int32} (hin : ∀ k : Int32, 0 ≤ k.toInt → k.toInt ≤ 7 → vp_in (i + k) L) {τ : Nat → Nat} {f : hM} {K sh qs M : Nat → Nat} {o : Nat} (h0 : LI G τ f K sh qs M o) {H : Heap} {locs : List Loc} {ls : Array Slot} (h : hw D b0 s.heap f H locs) (hl : lv_has ls 7 [(4, .int i), (3, .ref o), (2, .ref (M 0)), (1, .ref (K 0)), (0, .ref b)]) {cells slots : Nat} (hc : cells + 49 ≤ 601024) (hs : slots + 4900 ≤ 7293034) {Q : State → Prop} (kk : ∀ (τ1 : Nat → Nat) (f1 : hM) (H1 : Heap) (locs1 : List Loc) (ls1 : Array Slot), LI G τ1 f1 K sh qs M o → hw D b0 s.heap f1 H1 locs1 → lv_has ls1 7 [(4, .int i), (3, .ref o), (2, .ref (M 0)), (1, .ref (K 0)), (0, .ref b)] → W p l e room_1 s m #[Value.ref b] below meth c H1 locs1 (cells + 49) (slots + 4900) Q (F0 m 2564 ls1 [])) : W p l e room_1 s m #[Value.ref b] below meth c H locs cells slots Q (F0 m 2476 ls []) := by
  obtain ⟨hx, hb, hr, hml, hown, hts0, hXs, hbl, hlk, hgv⟩ := id C0
  have hts : ∀ w ∈ wAll, w.before #[Value.ref b] s = true := fun w hw => hts0 w (wAll_tbl w hw)
  have C : hC p s m #[Value.ref b] meth c cL_law 7 RL D G b0 := ⟨hx, hb, hml, hown, hts, hE0, hlk⟩
  have hbA : ¬ hA b0 b := by rw [← hb0]; exact Nat.not_le.mpr hbl
  refine lv_aload_n hx hb dL_law_2476 rfl (lv_at hl 3 rfl) ?_
  obtain ⟨fs_, kc_⟩ := h0.cx
  refine k_i (r_V C h hl (As := []) (rest := []) (lx_47 l D G b0 h0) kc_ (Cn := RX10) (T := TX10) (N := 10) rfl rfl mk_X10_back w_1301 w_1302 w_1303 w_1304 ⟨Nat.le_of_ble_eq_true rfl, Nat.le_of_ble_eq_true rfl⟩ rfl (Nat.le_of_ble_eq_true rfl) ⟨law_c1 hc (Nat.le_of_ble_eq_true rfl), law_s1 hs (Nat.le_of_ble_eq_true rfl)⟩ rfl dL_law_2477) h (fun r2477 f H locs hp h => ?_)
  obtain ⟨τ, h0⟩ := hp
  refine lv_pop hx hb dL_law_2480 rfl ?_
  refine lv_aload_n hx hb dL_law_2481 rfl (lv_at hl 2 rfl) ?_
  obtain ⟨fs_, kc_⟩ := h0.cm
  refine k_i (r_V C h hl (As := []) (rest := []) (lm_47 l D G b0 h0) kc_ (Cn := RX11) (T := TX11) (N := 32) rfl rfl mk_X11_back w_2026 w_2027 w_2028 w_2029 ⟨Nat.le_of_ble_eq_true rfl, Nat.le_of_ble_eq_true rfl⟩ rfl (Nat.le_of_ble_eq_true rfl) ⟨law_c2 hc (Nat.le_of_ble_eq_true rfl), law_s2 hs (Nat.le_of_ble_eq_true rfl)⟩ rfl dL_law_2482) h (fun r2482 f H locs hp h => ?_)
  obtain ⟨τ, h0⟩ := hp
  refine lv_pop hx hb dL_law_2485 rfl ?_
  refine lv_goto (tgt := 2564) hx hb dL_law_2486 (by decide) ?_
  refine W.widen (k := cells + 49) (n := slots + 4900) (law_w (Nat.le_of_ble_eq_true rfl)) (law_w (Nat.le_of_ble_eq_true rfl)) ?_
  exact kk _ _ _ _ _ h0 h (lv_sub hl [0, 1, 2, 3, 4] rfl)
set_option maxRecDepth 100000 in
set_option maxHeartbeats 4000000 in
theorem law_48 {p : Program} {l : Launch} {e : Env} {s : State} {m : MethodId} {below : List Frame} {meth : Method} {c : Code} (hst : l.stackTraces = false) {b L : Nat} {xs : Nat → Int32} (C0 : lw_At p s m meth c b L xs) {D : va_G} {G : Nat → Nat} {b0 : Nat} (hb0 : s.heap.size = b0) (hE0 : hE D G b0 s s.heap) {i : Int32} (hin : ∀ k : Int32, 0 ≤ k.toInt → k.toInt ≤ 7 → vp_in (i + k) L) {τ : Nat → Nat} {f : hM} {K sh qs M : Nat → Nat} {o : Nat} (h0 : LI G τ f K sh qs M o) {H : Heap} {locs : List Loc} {ls : Array Slot} (h : hw D b0 s.heap f H locs) (hl : lv_has ls 7 [(4, .int i), (3, .ref o), (2, .ref (M 0)), (1, .ref (K 0)), (0, .ref b)]) {cells slots : Nat} (hc : cells + 49 ≤ 601024) (hs : slots + 4900 ≤ 7293034) {Q : State → Prop} (kk : ∀ (τ1 : Nat → Nat) (f1 : hM) (H1 : Heap) (locs1 : List Loc) (ls1 : Array Slot), LI G τ1 f1 K sh qs M o → hw D b0 s.heap f1 H1 locs1 → lv_has ls1 7 [(4, .int i), (3, .ref o), (2, .ref (M 0)), (1, .ref (K 0)), (0, .ref b)] → W p l e room_1 s m #[Value.ref b] below meth c H1 locs1 (cells + 49) (slots + 4900) Q (F0 m 2564 ls1 [])) : W p l e room_1 s m #[Value.ref b] below meth c H locs cells slots Q (F0 m 2489 ls []) := by
  obtain ⟨hx, hb, hr, hml, hown, hts0, hXs, hbl, hlk, hgv⟩ := id C0
  have hts : ∀ w ∈ wAll, w.before #[Value.ref b] s = true := fun w hw => hts0 w (wAll_tbl w hw)
  have C : hC p s m #[Value.ref b] meth c cL_law 7 RL D G b0 := ⟨hx, hb, hml, hown, hts, hE0, hlk⟩
  have hbA : ¬ hA b0 b := by rw [← hb0]; exact Nat.not_le.mpr hbl
  refine lv_aload_n hx hb dL_law_2489 rfl (lv_at hl 3 rfl) ?_
  refine law_arg (v := 1) hx hb hXs hbl hbA h.2.2.1 (hin 1 (by decide) (by decide)) (lv_at hl 0 rfl) (lv_at hl 4 rfl) (by decide) dL_law_2490 dL_law_2491 dL_law_2493 dL_law_2494 dL_law_2495 ?_
  obtain ⟨fs_, kc_⟩ := h0.cx
  refine k_i (r_V C h hl (As := [.int (xs (Int32.toNatClampNeg (i + 1)))]) (rest := []) (lx_48 l D G b0 h0 _) kc_ (Cn := RX10) (T := TX10) (N := 10) rfl rfl mk_X10_status w_1309 w_1310 w_1311 w_1312 ⟨Nat.le_of_ble_eq_true rfl, Nat.le_of_ble_eq_true rfl⟩ rfl (Nat.le_of_ble_eq_true rfl) ⟨law_c1 hc (Nat.le_of_ble_eq_true rfl), law_s1 hs (Nat.le_of_ble_eq_true rfl)⟩ rfl dL_law_2496) h (fun r2496 f H locs hp h => ?_)
  obtain ⟨τ, h0⟩ := hp
  refine lv_pop hx hb dL_law_2499 rfl ?_
  refine lv_aload_n hx hb dL_law_2500 rfl (lv_at hl 2 rfl) ?_
  refine law_arg (v := 1) hx hb hXs hbl hbA h.2.2.1 (hin 1 (by decide) (by decide)) (lv_at hl 0 rfl) (lv_at hl 4 rfl) (by decide) dL_law_2501 dL_law_2502 dL_law_2504 dL_law_2505 dL_law_2506 ?_
  obtain ⟨fs_, kc_⟩ := h0.cm
  refine k_i (r_V C h hl (As := [.int (xs (Int32.toNatClampNeg (i + 1)))]) (rest := []) (lm_48 l D G b0 h0 _) kc_ (Cn := RX11) (T := TX11) (N := 32) rfl rfl mk_X11_status w_2030 w_2031 w_2032 w_2033 ⟨Nat.le_of_ble_eq_true rfl, Nat.le_of_ble_eq_true rfl⟩ rfl (Nat.le_of_ble_eq_true rfl) ⟨law_c2 hc (Nat.le_of_ble_eq_true rfl), law_s2 hs (Nat.le_of_ble_eq_true rfl)⟩ rfl dL_law_2507) h (fun r2507 f H locs hp h => ?_)
  obtain ⟨τ, h0⟩ := hp
  refine lv_pop hx hb dL_law_2510 rfl ?_
  refine lv_goto (tgt := 2564) hx hb dL_law_2511 (by decide) ?_
  refine W.widen (k := cells + 49) (n := slots + 4900) (law_w (Nat.le_of_ble_eq_true rfl)) (law_w (Nat.le_of_ble_eq_true rfl)) ?_
  exact kk _ _ _ _ _ h0 h (lv_sub hl [0, 1, 2, 3, 4] rfl)
set_option maxRecDepth 100000 in
set_option maxHeartbeats 4000000 in
theorem law_49 {p : Program} {l : Launch} {e : Env} {s : State} {m : MethodId} {below : List Frame} {meth : Method} {c : Code} (hst : l.stackTraces = false) {b L : Nat} {xs : Nat → Int32} (C0 : lw_At p s m meth c b L xs) {D : va_G} {G : Nat → Nat} {b0 : Nat} (hb0 : s.heap.size = b0) (hE0 : hE D G b0 s s.heap) {i : Int32} (hin : ∀ k : Int32, 0 ≤ k.toInt → k.toInt ≤ 7 → vp_in (i + k) L) {τ : Nat → Nat} {f : hM} {K sh qs M : Nat → Nat} {o : Nat} (h0 : LI G τ f K sh qs M o) {H : Heap} {locs : List Loc} {ls : Array Slot} (h : hw D b0 s.heap f H locs) (hl : lv_has ls 7 [(4, .int i), (3, .ref o), (2, .ref (M 0)), (1, .ref (K 0)), (0, .ref b)]) {cells slots : Nat} (hc : cells + 49 ≤ 601024) (hs : slots + 4900 ≤ 7293034) {Q : State → Prop} (kk : ∀ (τ1 : Nat → Nat) (f1 : hM) (H1 : Heap) (locs1 : List Loc) (ls1 : Array Slot), LI G τ1 f1 K sh qs M o → hw D b0 s.heap f1 H1 locs1 → lv_has ls1 7 [(4, .int i), (3, .ref o), (2, .ref (M 0)), (1, .ref (K 0)), (0, .ref b)] → W p l e room_1 s m #[Value.ref b] below meth c H1 locs1 (cells + 49) (slots + 4900) Q (F0 m 2564 ls1 [])) : W p l e room_1 s m #[Value.ref b] below meth c H locs cells slots Q (F0 m 2514 ls []) := by
  obtain ⟨hx, hb, hr, hml, hown, hts0, hXs, hbl, hlk, hgv⟩ := id C0
  have hts : ∀ w ∈ wAll, w.before #[Value.ref b] s = true := fun w hw => hts0 w (wAll_tbl w hw)
  have C : hC p s m #[Value.ref b] meth c cL_law 7 RL D G b0 := ⟨hx, hb, hml, hown, hts, hE0, hlk⟩
  have hbA : ¬ hA b0 b := by rw [← hb0]; exact Nat.not_le.mpr hbl
  refine lv_aload_n hx hb dL_law_2514 rfl (lv_at hl 3 rfl) ?_
  refine law_arg (v := 1) hx hb hXs hbl hbA h.2.2.1 (hin 1 (by decide) (by decide)) (lv_at hl 0 rfl) (lv_at hl 4 rfl) (by decide) dL_law_2515 dL_law_2516 dL_law_2518 dL_law_2519 dL_law_2520 ?_
  obtain ⟨fs_, kc_⟩ := h0.cx
  refine k_i (r_V C h hl (As := [.int (xs (Int32.toNatClampNeg (i + 1)))]) (rest := []) (lx_49 l D G b0 h0 _) kc_ (Cn := RX10) (T := TX10) (N := 10) rfl rfl mk_X10_most w_1313 w_1314 w_1315 w_1316 ⟨Nat.le_of_ble_eq_true rfl, Nat.le_of_ble_eq_true rfl⟩ rfl (Nat.le_of_ble_eq_true rfl) ⟨law_c1 hc (Nat.le_of_ble_eq_true rfl), law_s1 hs (Nat.le_of_ble_eq_true rfl)⟩ rfl dL_law_2521) h (fun r2521 f H locs hp h => ?_)
  obtain ⟨τ, h0⟩ := hp
  refine lv_pop hx hb dL_law_2524 rfl ?_
  refine lv_aload_n hx hb dL_law_2525 rfl (lv_at hl 2 rfl) ?_
  refine law_arg (v := 1) hx hb hXs hbl hbA h.2.2.1 (hin 1 (by decide) (by decide)) (lv_at hl 0 rfl) (lv_at hl 4 rfl) (by decide) dL_law_2526 dL_law_2527 dL_law_2529 dL_law_2530 dL_law_2531 ?_
  obtain ⟨fs_, kc_⟩ := h0.cm
  refine k_i (r_V C h hl (As := [.int (xs (Int32.toNatClampNeg (i + 1)))]) (rest := []) (lm_49 l D G b0 h0 _) kc_ (Cn := RX11) (T := TX11) (N := 32) rfl rfl mk_X11_most w_2034 w_2035 w_2036 w_2037 ⟨Nat.le_of_ble_eq_true rfl, Nat.le_of_ble_eq_true rfl⟩ rfl (Nat.le_of_ble_eq_true rfl) ⟨law_c2 hc (Nat.le_of_ble_eq_true rfl), law_s2 hs (Nat.le_of_ble_eq_true rfl)⟩ rfl dL_law_2532) h (fun r2532 f H locs hp h => ?_)
  obtain ⟨τ, h0⟩ := hp
  refine lv_pop hx hb dL_law_2535 rfl ?_
  refine lv_goto (tgt := 2564) hx hb dL_law_2536 (by decide) ?_
  refine W.widen (k := cells + 49) (n := slots + 4900) (law_w (Nat.le_of_ble_eq_true rfl)) (law_w (Nat.le_of_ble_eq_true rfl)) ?_
  exact kk _ _ _ _ _ h0 h (lv_sub hl [0, 1, 2, 3, 4] rfl)
set_option maxRecDepth 100000 in
set_option maxHeartbeats 4000000 in
theorem law_50 {p : Program} {l : Launch} {e : Env} {s : State} {m : MethodId} {below : List Frame} {meth : Method} {c : Code} (hst : l.stackTraces = false) {b L : Nat} {xs : Nat → Int32} (C0 : lw_At p s m meth c b L xs) {D : va_G} {G : Nat → Nat} {b0 : Nat} (hb0 : s.heap.size = b0) (hE0 : hE D G b0 s s.heap) {i : Int32} (hin : ∀ k : Int32, 0 ≤ k.toInt → k.toInt ≤ 7 → vp_in (i + k) L) {τ : Nat → Nat} {f : hM} {K sh qs M : Nat → Nat} {o : Nat} (h0 : LI G τ f K sh qs M o) {H : Heap} {locs : List Loc} {ls : Array Slot} (h : hw D b0 s.heap f H locs) (hl : lv_has ls 7 [(4, .int i), (3, .ref o), (2, .ref (M 0)), (1, .ref (K 0)), (0, .ref b)]) {cells slots : Nat} (hc : cells + 49 ≤ 601024) (hs : slots + 4900 ≤ 7293034) {Q : State → Prop} (kk : ∀ (τ1 : Nat → Nat) (f1 : hM) (H1 : Heap) (locs1 : List Loc) (ls1 : Array Slot), LI G τ1 f1 K sh qs M o → hw D b0 s.heap f1 H1 locs1 → lv_has ls1 7 [(4, .int i), (3, .ref o), (2, .ref (M 0)), (1, .ref (K 0)), (0, .ref b)] → W p l e room_1 s m #[Value.ref b] below meth c H1 locs1 (cells + 49) (slots + 4900) Q (F0 m 2564 ls1 [])) : W p l e room_1 s m #[Value.ref b] below meth c H locs cells slots Q (F0 m 2539 ls []) := by
  obtain ⟨hx, hb, hr, hml, hown, hts0, hXs, hbl, hlk, hgv⟩ := id C0
  have hts : ∀ w ∈ wAll, w.before #[Value.ref b] s = true := fun w hw => hts0 w (wAll_tbl w hw)
  have C : hC p s m #[Value.ref b] meth c cL_law 7 RL D G b0 := ⟨hx, hb, hml, hown, hts, hE0, hlk⟩
  have hbA : ¬ hA b0 b := by rw [← hb0]; exact Nat.not_le.mpr hbl
  refine lv_aload_n hx hb dL_law_2539 rfl (lv_at hl 3 rfl) ?_
  refine law_arg (v := 1) hx hb hXs hbl hbA h.2.2.1 (hin 1 (by decide) (by decide)) (lv_at hl 0 rfl) (lv_at hl 4 rfl) (by decide) dL_law_2540 dL_law_2541 dL_law_2543 dL_law_2544 dL_law_2545 ?_
  obtain ⟨fs_, kc_⟩ := h0.cx
  refine k_i (r_V C h hl (As := [.int (xs (Int32.toNatClampNeg (i + 1)))]) (rest := []) (lx_50 l D G b0 h0 _) kc_ (Cn := RX10) (T := TX10) (N := 10) rfl rfl mk_X10_count w_1348 w_1349 w_1350 w_1351 ⟨Nat.le_of_ble_eq_true rfl, Nat.le_of_ble_eq_true rfl⟩ rfl (Nat.le_of_ble_eq_true rfl) ⟨law_c1 hc (Nat.le_of_ble_eq_true rfl), law_s1 hs (Nat.le_of_ble_eq_true rfl)⟩ rfl dL_law_2546) h (fun r2546 f H locs hp h => ?_)
  obtain ⟨τ, h0⟩ := hp
  refine lv_pop hx hb dL_law_2549 rfl ?_
  refine lv_aload_n hx hb dL_law_2550 rfl (lv_at hl 2 rfl) ?_
  refine law_arg (v := 1) hx hb hXs hbl hbA h.2.2.1 (hin 1 (by decide) (by decide)) (lv_at hl 0 rfl) (lv_at hl 4 rfl) (by decide) dL_law_2551 dL_law_2552 dL_law_2554 dL_law_2555 dL_law_2556 ?_
  obtain ⟨fs_, kc_⟩ := h0.cm
  refine k_i (r_V C h hl (As := [.int (xs (Int32.toNatClampNeg (i + 1)))]) (rest := []) (lm_50 l D G b0 h0 _) kc_ (Cn := RX11) (T := TX11) (N := 32) rfl rfl mk_X11_count w_2054 w_2055 w_2056 w_2057 ⟨Nat.le_of_ble_eq_true rfl, Nat.le_of_ble_eq_true rfl⟩ rfl (Nat.le_of_ble_eq_true rfl) ⟨law_c2 hc (Nat.le_of_ble_eq_true rfl), law_s2 hs (Nat.le_of_ble_eq_true rfl)⟩ rfl dL_law_2557) h (fun r2557 f H locs hp h => ?_)
  obtain ⟨τ, h0⟩ := hp
  refine lv_pop hx hb dL_law_2560 rfl ?_
  refine lv_goto (tgt := 2564) hx hb dL_law_2561 (by decide) ?_
  refine W.widen (k := cells + 49) (n := slots + 4900) (law_w (Nat.le_of_ble_eq_true rfl)) (law_w (Nat.le_of_ble_eq_true rfl)) ?_
  exact kk _ _ _ _ _ h0 h (lv_sub hl [0, 1, 2, 3, 4] rfl)
