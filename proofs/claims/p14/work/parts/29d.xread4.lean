theorem dX7_read_0 : decode cX7_read 0 = .ok (.aload_n 0, 1) := by decide +kernel
theorem dX7_read_1 : decode cX7_read 1 = .ok (.getfield 15, 3) := by decide +kernel
theorem dX7_read_4 : decode cX7_read 4 = .ok (.iconst 0, 1) := by decide +kernel
theorem dX7_read_5 : decode cX7_read 5 = .ok (.invokestatic 33, 3) := by decide +kernel
theorem w_436 : Cond.methodLink "QuarterWalks$Tape" 33 yJ7_fill_53178 ∈ wAll := wI2 101 (by decide +kernel) (by decide +kernel)
theorem dX7_read_8 : decode cX7_read 8 = .ok (.aload_n 0, 1) := by decide +kernel
theorem dX7_read_9 : decode cX7_read 9 = .ok (.iconst 0, 1) := by decide +kernel
theorem dX7_read_10 : decode cX7_read 10 = .ok (.putfield 24, 3) := by decide +kernel
theorem dX7_read_13 : decode cX7_read 13 = .ok (.aload_n 0, 1) := by decide +kernel
theorem dX7_read_14 : decode cX7_read 14 = .ok (.iconst 0, 1) := by decide +kernel
theorem dX7_read_15 : decode cX7_read 15 = .ok (.putfield 27, 3) := by decide +kernel
theorem dX7_read_18 : decode cX7_read 18 = .ok (.aload_n 0, 1) := by decide +kernel
theorem dX7_read_19 : decode cX7_read 19 = .ok (.iconst 0, 1) := by decide +kernel
theorem dX7_read_20 : decode cX7_read 20 = .ok (.putfield 39, 3) := by decide +kernel
theorem dX7_read_23 : decode cX7_read 23 = .ok (.aload_n 0, 1) := by decide +kernel
theorem dX7_read_24 : decode cX7_read 24 = .ok (.iconst 0, 1) := by decide +kernel
theorem dX7_read_25 : decode cX7_read 25 = .ok (.putfield 42, 3) := by decide +kernel
theorem dX7_read_28 : decode cX7_read 28 = .ok (.iconst 0, 1) := by decide +kernel
theorem dX7_read_29 : decode cX7_read 29 = .ok (.istore_n 1, 1) := by decide +kernel
theorem dX7_read_30 : decode cX7_read 30 = .ok (.iconst 0, 1) := by decide +kernel
theorem dX7_read_31 : decode cX7_read 31 = .ok (.istore_n 2, 1) := by decide +kernel
theorem dX7_read_32 : decode cX7_read 32 = .ok (.iload_n 2, 1) := by decide +kernel
theorem dX7_read_33 : decode cX7_read 33 = .ok (.aload_n 0, 1) := by decide +kernel
theorem dX7_read_34 : decode cX7_read 34 = .ok (.getfield 18, 3) := by decide +kernel
theorem dX7_read_37 : decode cX7_read 37 = .ok (.if_icmp .ge 42, 3) := by decide +kernel
theorem dX7_read_79 : decode cX7_read 79 = .ok (.aload_n 0, 1) := by decide +kernel
theorem dX7_read_80 : decode cX7_read 80 = .ok (.getfield 39, 3) := by decide +kernel
theorem dX7_read_83 : decode cX7_read 83 = .ok (.iconst 1, 1) := by decide +kernel
theorem dX7_read_84 : decode cX7_read 84 = .ok (.if_icmp .eq 20, 3) := by decide +kernel
theorem dX7_read_87 : decode cX7_read 87 = .ok (.aload_n 0, 1) := by decide +kernel
theorem dX7_read_88 : decode cX7_read 88 = .ok (.getfield 39, 3) := by decide +kernel
theorem dX7_read_91 : decode cX7_read 91 = .ok (.iconst 2, 1) := by decide +kernel
theorem dX7_read_92 : decode cX7_read 92 = .ok (.if_icmp .eq 12, 3) := by decide +kernel
theorem dX7_read_95 : decode cX7_read 95 = .ok (.aload_n 0, 1) := by decide +kernel
theorem dX7_read_96 : decode cX7_read 96 = .ok (.getfield 39, 3) := by decide +kernel
theorem dX7_read_99 : decode cX7_read 99 = .ok (.bipush 6, 2) := by decide +kernel
theorem dX7_read_101 : decode cX7_read 101 = .ok (.if_icmp .ne 7, 3) := by decide +kernel
theorem dX7_read_108 : decode cX7_read 108 = .ok (.aload_n 0, 1) := by decide +kernel
theorem dX7_read_109 : decode cX7_read 109 = .ok (.getfield 18, 3) := by decide +kernel
theorem dX7_read_40 : decode cX7_read 40 = .ok (.iload_n 2, 1) := by decide +kernel
theorem dX7_read_41 : decode cX7_read 41 = .ok (.iconst 1, 1) := by decide +kernel
theorem dX7_read_42 : decode cX7_read 42 = .ok (.iadd, 1) := by decide +kernel
theorem dX7_read_43 : decode cX7_read 43 = .ok (.aload_n 0, 1) := by decide +kernel
theorem dX7_read_44 : decode cX7_read 44 = .ok (.iload_n 2, 1) := by decide +kernel
theorem dX7_read_45 : decode cX7_read 45 = .ok (.invokevirtual 45, 3) := by decide +kernel
theorem w_439 : Cond.methodLink "QuarterWalks$Tape" 45 yX7_partEnd ∈ wAll := wI2 104 (by decide +kernel) (by decide +kernel)
theorem w_0 : Cond.selects yX7_partEnd.cls yX7_partEnd yX7_partEnd ∈ wAll := wIn 0 (by decide +kernel) (by decide +kernel)
theorem mk_X7_partEnd : mk yX7_partEnd 1 := ⟨by decide +kernel, w_97⟩
theorem w_441 : Cond.instanceMethod yX7_partEnd ∈ wAll := wI2 106 (by decide +kernel) (by decide +kernel)
theorem w_442 : Cond.code yX7_partEnd cX7_partEnd 3 (some .int) ∈ wAll := wI2 107 (by decide +kernel) (by decide +kernel)
theorem dX7_read_48 : decode cX7_read 48 = .ok (.invokestatic 49, 3) := by decide +kernel
theorem w_452 : Cond.methodLink "QuarterWalks$Tape" 49 yJ9_max_7cf53 ∈ wAll := wI2 117 (by decide +kernel) (by decide +kernel)
theorem dX7_read_51 : decode cX7_read 51 = .ok (.istore_n 1, 1) := by decide +kernel
theorem dX7_read_52 : decode cX7_read 52 = .ok (.aload_n 0, 1) := by decide +kernel
theorem dX7_read_53 : decode cX7_read 53 = .ok (.getfield 11, 3) := by decide +kernel
theorem dX7_read_56 : decode cX7_read 56 = .ok (.iload_n 2, 1) := by decide +kernel
theorem dX7_read_57 : decode cX7_read 57 = .ok (.iaload, 1) := by decide +kernel
theorem dX7_read_58 : decode cX7_read 58 = .ok (.bipush 32, 2) := by decide +kernel
theorem dX7_read_60 : decode cX7_read 60 = .ok (.if_icmp .eq 14, 3) := by decide +kernel
theorem dX7_read_74 : decode cX7_read 74 = .ok (.iload_n 1, 1) := by decide +kernel
theorem dX7_read_75 : decode cX7_read 75 = .ok (.istore_n 2, 1) := by decide +kernel
theorem dX7_read_76 : decode cX7_read 76 = .ok (.goto (-44), 3) := by decide +kernel
theorem dX7_read_63 : decode cX7_read 63 = .ok (.aload_n 0, 1) := by decide +kernel
theorem dX7_read_64 : decode cX7_read 64 = .ok (.iload_n 2, 1) := by decide +kernel
theorem dX7_read_65 : decode cX7_read 65 = .ok (.iload_n 1, 1) := by decide +kernel
theorem dX7_read_66 : decode cX7_read 66 = .ok (.invokevirtual 55, 3) := by decide +kernel
theorem w_455 : Cond.methodLink "QuarterWalks$Tape" 55 yX7_takes ∈ wAll := wI2 120 (by decide +kernel) (by decide +kernel)
theorem w_3 : Cond.selects yX7_takes.cls yX7_takes yX7_takes ∈ wAll := wIn 3 (by decide +kernel) (by decide +kernel)
theorem mk_X7_takes : mk yX7_takes 2 := ⟨by decide +kernel, w_97⟩
theorem w_457 : Cond.instanceMethod yX7_takes ∈ wAll := wI2 122 (by decide +kernel) (by decide +kernel)
theorem w_458 : Cond.code yX7_takes cX7_takes 3 (some .boolean) ∈ wAll := wI2 123 (by decide +kernel) (by decide +kernel)
theorem dX7_read_69 : decode cX7_read 69 = .ok (.ifCond .ne 5, 3) := by decide +kernel
theorem dX7_read_72 : decode cX7_read 72 = .ok (.iload_n 2, 1) := by decide +kernel
theorem dX7_read_104 : decode cX7_read 104 = .ok (.iconst (-1), 1) := by decide +kernel
theorem dX7_read_105 : decode cX7_read 105 = .ok (.goto 7, 3) := by decide +kernel
theorem dX7_read_112 : decode cX7_read 112 = .ok (.ireturn, 1) := by decide +kernel
theorem dX7_read_73 : decode cX7_read 73 = .ok (.ireturn, 1) := by decide +kernel
abbrev rm_s_X7_readX : Room := { frames := 7, cells := 0, slots := 0, locals := 154 }
set_option maxRecDepth 100000 in
set_option maxHeartbeats 4000000 in
theorem s_X7_readX (l : Launch) (D : va_G) (G : Nat → Nat) (b0 : Nat) (τ : Nat → Nat) (f : hM) (t : TI G 9 τ f) (u0 : Nat) (hu0 : τ u0 = 11) (ln : Int32) (hln : iv ln 0 200) (k_u0_0 : atp f u0 (fd 0 (.int ln))) (tq : Nat) (htq : τ tq = 13) (k_u0_1 : atp f u0 (fd 1 (.ref tq))) (wq : Nat) (hwq : τ wq = 14) (k_u0_2 : atp f u0 (fd 2 (.ref wq))) (sx : Int32) (hsx : iv sx 0 9) (k_u0_3 : atp f u0 (fd 3 (.int sx))) (sy : Int32) (hsy : iv sy 0 9) (k_u0_4 : atp f u0 (fd 4 (.int sy))) (bh : Int32) (hbh : iv bh 0 6) (k_u0_5 : atp f u0 (fd 5 (.int bh))) (la : Int32) (hla : iv la 0 7) (k_u0_6 : atp f u0 (fd 6 (.int la))) (rt : Nat → Int32) (hRtq : atp f tq (eqc (.inl (G 1, 200, .inl rt)))) (ww : Nat → Int32) (hRwq : atp f wq (eqc (.inl (G 1, 8, .inl ww)))) : mI l yX7_read cX7_read 3 (.int) rm_s_X7_readX D G b0 f [.ref u0] (fun r f1 => iv r (-1) 200 ∧ TI G 9 τ f1 ∧ Fr [11, 14, 11004, 11005, 11006, 11007] τ f f1 ∧ (∃ (sx1 : Int32) (sy1 : Int32) (bh1 : Int32) (la1 : Int32) (ww1 : Nat → Int32), (atp f1 u0 (fd 3 (.int sx1)) ∧ iv sx1 0 9) ∧ (atp f1 u0 (fd 4 (.int sy1)) ∧ iv sy1 0 9) ∧ (atp f1 u0 (fd 5 (.int bh1)) ∧ iv bh1 0 6) ∧ (atp f1 u0 (fd 6 (.int la1)) ∧ iv la1 0 7) ∧ atp f1 wq (eqc (.inl (G 1, 8, .inl ww1))) ∧ (r.toInt = (run (tb rt) ln.toInt.toNat 0 0 (fun _ => 0) 0 0 0).1 ∧ (r.toInt = -1 → (∀ k : Nat, k < 8 → (ww1 k).toInt = (run (tb rt) ln.toInt.toNat 0 0 (fun _ => 0) 0 0 0).2.1 k) ∧ sx1.toInt = (run (tb rt) ln.toInt.toNat 0 0 (fun _ => 0) 0 0 0).2.2.1 ∧ sy1.toInt = (run (tb rt) ln.toInt.toNat 0 0 (fun _ => 0) 0 0 0).2.2.2))) ∧ FX [u0, wq] f f1) := by
  refine met2 (own := RX7) (by decide) rfl (Nat.le_of_ble_eq_true rfl) ?_
  intro p e s m args below meth c ls Q hQ C hr hini hl h
  have hl : lv_has ls 3 [(0, .ref u0)] := hl
  obtain ⟨hx, hb, hml, hown, hts, hE0, hlk⟩ := id C
  have o := Fr.rf [11, 14, 11004, 11005, 11006, 11007] τ f
  have hfx := FX.rf [u0, wq] f
  have L32 : ∀ (n32 : Nat) (ls : Array Slot) (f_32 : hM) (H : Heap) (locs : List Loc) (v32_2 : Int32) (g32_wq_R : Nat → Int32) (g32_u0_3 : Int32) (g32_u0_4 : Int32) (g32_u0_5 : Int32) (g32_u0_6 : Int32), 200 - v32_2.toInt < (n32 : Int) → lv_has ls 3 [(0, .ref u0), (2, .int v32_2)] → hw D b0 s.heap f_32 H locs → TI G 9 τ f_32 → Fr [11, 14, 11004, 11005, 11006, 11007] τ f f_32 → iv v32_2 0 200 → iv g32_u0_3 0 9 → iv g32_u0_4 0 9 → iv g32_u0_5 0 6 → iv g32_u0_6 0 7 → atp f_32 u0 (fd 0 (.int ln)) → atp f_32 u0 (fd 1 (.ref tq)) → atp f_32 u0 (fd 2 (.ref wq)) → atp f_32 tq (eqc (.inl (G 1, 200, .inl rt))) → FX [u0, wq] f f_32 → atp f_32 wq (eqc (.inl (G 1, 8, .inl g32_wq_R))) → atp f_32 u0 (fd 3 (.int g32_u0_3)) → atp f_32 u0 (fd 4 (.int g32_u0_4)) → atp f_32 u0 (fd 5 (.int g32_u0_5)) → atp f_32 u0 (fd 6 (.int g32_u0_6)) → v32_2.toInt ≤ ln.toInt → (∃ w : Nat → Int, (∀ k : Nat, k < 8 → (g32_wq_R k).toInt = w k) ∧ run (tb rt) ln.toInt.toNat (Int.toNat (v32_2.toInt)) (g32_u0_5.toInt) w (Int.toNat (g32_u0_6.toInt)) (g32_u0_3.toInt) (g32_u0_4.toInt) = run (tb rt) ln.toInt.toNat 0 0 (fun _ => 0) 0 0 0) → W p l e rm_s_X7_readX s m args below meth c H locs 0 0 Q (F0 m 32 ls []) := by
    intro n32
    induction n32 with
    | zero => intro ls f_32 H locs v32_2 g32_wq_R g32_u0_3 g32_u0_4 g32_u0_5 g32_u0_6 hm32 hl h t_32 o_32 iv32_2 ig32_u0_3 ig32_u0_4 ig32_u0_5 ig32_u0_6 k32_u0_0 k32_u0_1 k32_u0_2 k32_tq_R k32_fx_FX k32_wq_R k32_u0_3 k32_u0_4 k32_u0_5 k32_u0_6 hv32_0 hv32_1; exact absurd hm32 (by omega)
    | succ n32 ih32 =>
      intro ls f_32 H locs v32_2 g32_wq_R g32_u0_3 g32_u0_4 g32_u0_5 g32_u0_6 hm32 hl h t_32 o_32 iv32_2 ig32_u0_3 ig32_u0_4 ig32_u0_5 ig32_u0_6 k32_u0_0 k32_u0_1 k32_u0_2 k32_tq_R k32_fx_FX k32_wq_R k32_u0_3 k32_u0_4 k32_u0_5 k32_u0_6 hv32_0 hv32_1
      refine lv_iload_n hx hb dX7_read_32 rfl (lv_at hl 1 rfl) ?_
      refine lv_aload_n hx hb dX7_read_33 rfl (lv_at hl 0 rfl) ?_
      refine t_getfd C h t_32 hu0 (by decide) wf_11 (v := .int ln) k32_u0_0 fl_X7_18 dX7_read_34 ?_
      refine lv_icmp_ge (tgt := 79) hx hb dX7_read_37 (by decide) (fun c1 => ?_) (fun c1 => ?_)
      · have c2 : ln.toInt ≤ v32_2.toInt := Int32.le_iff_toInt_le.mp c1
        refine lv_aload_n hx hb dX7_read_79 rfl (lv_at hl 0 rfl) ?_
        refine t_getfd C h t_32 hu0 (by decide) wf_11 (v := .int g32_u0_5) k32_u0_5 fl_X7_39 dX7_read_80 ?_
        refine lv_iconst (v := 1) hx hb dX7_read_83 (by decide) ?_
        refine lv_icmp_eq (tgt := 104) hx hb dX7_read_84 (by decide) (fun c6 => ?_) (fun c6 => ?_)
        · have c7 : g32_u0_5.toInt = 1 := congrArg Int32.toInt c6
          have i8 : iv g32_u0_5 1 1 := iv_Q c7 ig32_u0_5 (iv_k (x := 1) (k := 1) rfl) (by decide)
          refine lv_iconst (v := -1) hx hb dX7_read_104 (by decide) ?_
          refine lv_goto (tgt := 112) hx hb dX7_read_105 (by decide) ?_
          exact u_iret C h hr hQ (⟨⟨by decide, by decide⟩, t_32, o_32, ⟨g32_u0_3, g32_u0_4, g32_u0_5, g32_u0_6, g32_wq_R, ⟨k32_u0_3, ig32_u0_3⟩, ⟨k32_u0_4, ig32_u0_4⟩, ⟨k32_u0_5, (iv_w i8 (by decide))⟩, ⟨k32_u0_6, ig32_u0_6⟩, k32_wq_R, (by
              obtain ⟨w, hw, hR⟩ := hv32_1
              rw [← hR, run_end (by omega), if_pos (by omega)]
              exact ⟨rfl, fun _ => ⟨hw, rfl, rfl⟩⟩)⟩, k32_fx_FX⟩) (Nat.le_of_ble_eq_true rfl) (Nat.le_of_ble_eq_true rfl) dX7_read_112
        · have c9 : g32_u0_5.toInt ≠ 1 := fun z_ => c6 (Int32.toInt_inj.mp z_)
          refine lv_aload_n hx hb dX7_read_87 rfl (lv_at hl 0 rfl) ?_
          refine t_getfd C h t_32 hu0 (by decide) wf_11 (v := .int g32_u0_5) k32_u0_5 fl_X7_39 dX7_read_88 ?_
          refine lv_iconst (v := 2) hx hb dX7_read_91 (by decide) ?_
          refine lv_icmp_eq (tgt := 104) hx hb dX7_read_92 (by decide) (fun c10 => ?_) (fun c10 => ?_)
          · have c11 : g32_u0_5.toInt = 2 := congrArg Int32.toInt c10
            have i12 : iv g32_u0_5 2 2 := iv_Q c11 ig32_u0_5 (iv_k (x := 2) (k := 2) rfl) (by decide)
            refine lv_iconst (v := -1) hx hb dX7_read_104 (by decide) ?_
            refine lv_goto (tgt := 112) hx hb dX7_read_105 (by decide) ?_
            exact u_iret C h hr hQ (⟨⟨by decide, by decide⟩, t_32, o_32, ⟨g32_u0_3, g32_u0_4, g32_u0_5, g32_u0_6, g32_wq_R, ⟨k32_u0_3, ig32_u0_3⟩, ⟨k32_u0_4, ig32_u0_4⟩, ⟨k32_u0_5, (iv_w i12 (by decide))⟩, ⟨k32_u0_6, ig32_u0_6⟩, k32_wq_R, (by
                obtain ⟨w, hw, hR⟩ := hv32_1
                rw [← hR, run_end (by omega), if_pos (by omega)]
                exact ⟨rfl, fun _ => ⟨hw, rfl, rfl⟩⟩)⟩, k32_fx_FX⟩) (Nat.le_of_ble_eq_true rfl) (Nat.le_of_ble_eq_true rfl) dX7_read_112
          · have c13 : g32_u0_5.toInt ≠ 2 := fun z_ => c10 (Int32.toInt_inj.mp z_)
            refine lv_aload_n hx hb dX7_read_95 rfl (lv_at hl 0 rfl) ?_
            refine t_getfd C h t_32 hu0 (by decide) wf_11 (v := .int g32_u0_5) k32_u0_5 fl_X7_39 dX7_read_96 ?_
            refine lv_bipush (v := 6) hx hb dX7_read_99 (by decide) ?_
            refine lv_icmp_ne (tgt := 108) hx hb dX7_read_101 (by decide) (fun c14 => ?_) (fun c14 => ?_)
            · have c15 : g32_u0_5.toInt ≠ 6 := fun z_ => c14 (Int32.toInt_inj.mp z_)
              have i16 : iv g32_u0_5 0 5 := iv_Nh c15 ig32_u0_5 (by decide)
              refine lv_aload_n hx hb dX7_read_108 rfl (lv_at hl 0 rfl) ?_
              refine t_getfd C h t_32 hu0 (by decide) wf_11 (v := .int ln) k32_u0_0 fl_X7_18 dX7_read_109 ?_
              exact u_iret C h hr hQ (⟨(iv_w hln (by decide)), t_32, o_32, ⟨g32_u0_3, g32_u0_4, g32_u0_5, g32_u0_6, g32_wq_R, ⟨k32_u0_3, ig32_u0_3⟩, ⟨k32_u0_4, ig32_u0_4⟩, ⟨k32_u0_5, (iv_w i16 (by decide))⟩, ⟨k32_u0_6, ig32_u0_6⟩, k32_wq_R, (by
                  obtain ⟨w, hw, hR⟩ := hv32_1
                  rw [← hR, run_end (by omega), if_neg (by omega)]
                  exact ⟨by show _ = ((ln.toInt.toNat : Nat) : Int); omega, fun z_ => absurd z_ (by omega)⟩)⟩, k32_fx_FX⟩) (Nat.le_of_ble_eq_true rfl) (Nat.le_of_ble_eq_true rfl) dX7_read_112
            · have c17 : g32_u0_5.toInt = 6 := congrArg Int32.toInt c14
              have i18 : iv g32_u0_5 6 6 := iv_Q c17 ig32_u0_5 (iv_k (x := 6) (k := 6) rfl) (by decide)
              refine lv_iconst (v := -1) hx hb dX7_read_104 (by decide) ?_
              refine lv_goto (tgt := 112) hx hb dX7_read_105 (by decide) ?_
              exact u_iret C h hr hQ (⟨⟨by decide, by decide⟩, t_32, o_32, ⟨g32_u0_3, g32_u0_4, g32_u0_5, g32_u0_6, g32_wq_R, ⟨k32_u0_3, ig32_u0_3⟩, ⟨k32_u0_4, ig32_u0_4⟩, ⟨k32_u0_5, (iv_w i18 (by decide))⟩, ⟨k32_u0_6, ig32_u0_6⟩, k32_wq_R, (by
                  obtain ⟨w, hw, hR⟩ := hv32_1
                  rw [← hR, run_end (by omega), if_pos (by omega)]
                  exact ⟨rfl, fun _ => ⟨hw, rfl, rfl⟩⟩)⟩, k32_fx_FX⟩) (Nat.le_of_ble_eq_true rfl) (Nat.le_of_ble_eq_true rfl) dX7_read_112
      · have c3 : v32_2.toInt < ln.toInt := Int32.lt_iff_toInt_lt.mp (iv_nle c1)
        have i4 : iv v32_2 0 199 := iv_Ll c3 iv32_2 hln (by decide)
        have i5 : iv ln 1 200 := iv_Lr c3 iv32_2 hln (by decide)
        refine lv_iload_n hx hb dX7_read_40 rfl (lv_at hl 1 rfl) ?_
        refine lv_iconst (v := 1) hx hb dX7_read_41 (by decide) ?_
        refine i_addk hx hb dX7_read_42 i4 (k := 1) rfl (lo := 1) (hi := 200) (by decide) (fun z19 ez19 mz19 iz19 => ?_)
        refine lv_aload_n hx hb dX7_read_43 rfl (lv_at hl 0 rfl) ?_
        refine lv_iload_n hx hb dX7_read_44 rfl (lv_at hl 1 rfl) ?_
        obtain ⟨_, r20⟩ := t_rec t_32 hu0 (by decide) wf_11
        refine k_i (r_V C h hl (As := [.int v32_2]) (rest := [.int z19]) (s_X7_partEndX l D G b0 τ f_32 t_32 u0 hu0 v32_2 i4 ln (iv_w i5 (by decide)) k32_u0_0 tq htq k32_u0_1 rt k32_tq_R (by omega)) r20 (Cn := RX7) (T := TX7) (N := 7) rfl rfl mk_X7_partEnd w_439 w_441 w_0 w_442 ⟨Nat.le_of_ble_eq_true rfl, Nat.le_of_ble_eq_true rfl⟩ rfl (Nat.le_of_ble_eq_true rfl) ⟨Nat.le_of_ble_eq_true rfl, Nat.le_of_ble_eq_true rfl⟩ rfl dX7_read_45) h (fun r21 f22 H locs p23 h => ?_)
        obtain ⟨ir21, tf22, ogf22, x0r21, x1r21⟩ := p23
        have egf22 := Fr.nil2 ogf22
        subst egf22
        refine va_mmax hx hb (hml.trans hl.1.symm) hown (hts _ w_452) (hts _ w_453) (hts _ w_112) (hts _ w_454) (Nat.le_of_ble_eq_true rfl) (Nat.le_of_ble_eq_true rfl) (Nat.le_of_ble_eq_true rfl) (Nat.le_of_ble_eq_true rfl) dX7_read_48 (i_max iz19 ir21 (lo := 1) (hi := 200) (by decide) (fun z24 mz24 iz24 => ?_))
        refine lv_istore_n (lv' := [(1, .int z24), (0, .ref u0), (2, .int v32_2)]) hx hb dX7_read_51 rfl hl (by decide) rfl (fun ls hl => ?_)
        refine lv_aload_n hx hb dX7_read_52 rfl (lv_at hl 1 rfl) ?_
        refine t_getfd C h t_32 hu0 (by decide) wf_11 (v := .ref tq) k32_u0_1 fl_X7_11 dX7_read_53 ?_
        refine lv_iload_n hx hb dX7_read_56 rfl (lv_at hl 2 rfl) ?_
        refine e_iald C h t_32 htq (by decide) wf_13 k32_tq_R (iv_in i4 (by decide)) dX7_read_57 (fun z25 ez25 iz25 => ?_)
        have mz25 := congrArg Int32.toInt ez25
        have qz25 : tb rt v32_2.toInt.toNat = z25.toInt := mz25.symm
        refine lv_bipush (v := 32) hx hb dX7_read_58 (by decide) ?_
        refine lv_icmp_eq (tgt := 74) hx hb dX7_read_60 (by decide) (fun c26 => ?_) (fun c26 => ?_)
        · have c27 : z25.toInt = 32 := congrArg Int32.toInt c26
          have i28 : iv z25 32 32 := iv_Q c27 iz25 (iv_k (x := 32) (k := 32) rfl) (by decide)
          refine lv_iload_n hx hb dX7_read_74 rfl (lv_at hl 0 rfl) ?_
          refine lv_istore_n (lv' := [(2, .int z24), (1, .int z24), (0, .ref u0)]) hx hb dX7_read_75 rfl hl (by decide) rfl (fun ls hl => ?_)
          refine lv_goto (tgt := 32) hx hb dX7_read_76 (by decide) ?_
          exact ih32 ls f_32 H locs z24 g32_wq_R g32_u0_3 g32_u0_4 g32_u0_5 g32_u0_6 (show 200 - z24.toInt < _ by omega) (lv_cons hl 2 rfl (lv_cons hl 0 rfl (lv_nil hl))) h t_32 o_32 (iv_w iz24 (by decide)) ig32_u0_3 ig32_u0_4 ig32_u0_5 ig32_u0_6 k32_u0_0 k32_u0_1 k32_u0_2 k32_tq_R k32_fx_FX k32_wq_R k32_u0_3 k32_u0_4 k32_u0_5 k32_u0_6 (show z24.toInt ≤ ln.toInt by omega) (show ∃ w : Nat → Int, (∀ k : Nat, k < 8 → (g32_wq_R k).toInt = w k) ∧ run (tb rt) ln.toInt.toNat (Int.toNat (z24.toInt)) (g32_u0_5.toInt) w (Int.toNat (g32_u0_6.toInt)) (g32_u0_3.toInt) (g32_u0_4.toInt) = run (tb rt) ln.toInt.toNat 0 0 (fun _ => 0) 0 0 0 from (by
              obtain ⟨w, hw, hR⟩ := hv32_1
              refine ⟨w, hw, ?_⟩
              rw [← hR, run_sp (i := v32_2.toInt.toNat) (by omega) (by omega)]
              exact congrArg (fun z_ => run (tb rt) ln.toInt.toNat z_ _ w _ _ _) (by rw [te_sp (by omega)] at x0r21; omega)))
        · have c29 : z25.toInt ≠ 32 := fun z_ => c26 (Int32.toInt_inj.mp z_)
          refine lv_aload_n hx hb dX7_read_63 rfl (lv_at hl 1 rfl) ?_
          refine lv_iload_n hx hb dX7_read_64 rfl (lv_at hl 2 rfl) ?_
          refine lv_iload_n hx hb dX7_read_65 rfl (lv_at hl 0 rfl) ?_
          obtain ⟨_, r30⟩ := t_rec t_32 hu0 (by decide) wf_11
          refine k_i (r_V C h hl (As := [.int v32_2, .int z24]) (rest := []) (s_X7_takesX l D G b0 τ f_32 t_32 u0 hu0 v32_2 i4 z24 iz24 ln (iv_w i5 (by decide)) k32_u0_0 tq htq k32_u0_1 wq hwq k32_u0_2 g32_u0_3 ig32_u0_3 k32_u0_3 g32_u0_4 ig32_u0_4 k32_u0_4 g32_u0_5 ig32_u0_5 k32_u0_5 g32_u0_6 ig32_u0_6 k32_u0_6 rt k32_tq_R g32_wq_R k32_wq_R (by omega) (by omega)) r30 (Cn := RX7) (T := TX7) (N := 7) rfl rfl mk_X7_takes w_455 w_457 w_3 w_458 ⟨Nat.le_of_ble_eq_true rfl, Nat.le_of_ble_eq_true rfl⟩ rfl (Nat.le_of_ble_eq_true rfl) ⟨Nat.le_of_ble_eq_true rfl, Nat.le_of_ble_eq_true rfl⟩ rfl dX7_read_66) h (fun r31 f32 H locs p33 h => ?_)
          obtain ⟨ir31, tf32, ogf32, ⟨bh1_f32, la1_f32, sx1_f32, sy1_f32, ww1_f32, ⟨kpu0_5f32, ipu0_5f32⟩, ⟨kpu0_6f32, ipu0_6f32⟩, ⟨kpu0_3f32, ipu0_3f32⟩, ⟨kpu0_4f32, ipu0_4f32⟩, kRwqf32, jtf32⟩, fxf32⟩ := p33
          have of32 : Fr [11, 14, 11004, 11005, 11006, 11007] τ f f32 := Fr.tr o_32 ogf32 (by decide) (by decide)
          have k34 := atp.fk k32_u0_0 ogf32 hu0 (by decide) (by decide)
          have k35 := atp.fk k32_u0_1 ogf32 hu0 (by decide) (by decide)
          have k36 := atp.fk k32_u0_2 ogf32 hu0 (by decide) (by decide)
          have k37 := atp.fr k32_tq_R ogf32 htq (by decide)
          have k38 := FX.tr k32_fx_FX fxf32 (by simp)
          refine lv_if_ne (tgt := 74) hx hb dX7_read_69 (by decide) (fun c39 => ?_) (fun c39 => ?_)
          · have c40 : r31.toInt ≠ 0 := fun z_ => c39 (Int32.toInt_inj.mp z_)
            have i41 : iv r31 1 1 := iv_Nl c40 ir31 (by decide)
            refine lv_iload_n hx hb dX7_read_74 rfl (lv_at hl 0 rfl) ?_
            refine lv_istore_n (lv' := [(2, .int z24), (1, .int z24), (0, .ref u0)]) hx hb dX7_read_75 rfl hl (by decide) rfl (fun ls hl => ?_)
            refine lv_goto (tgt := 32) hx hb dX7_read_76 (by decide) ?_
            exact ih32 ls f32 H locs z24 ww1_f32 sx1_f32 sy1_f32 bh1_f32 la1_f32 (show 200 - z24.toInt < _ by omega) (lv_cons hl 2 rfl (lv_cons hl 0 rfl (lv_nil hl))) h tf32 of32 (iv_w iz24 (by decide)) ipu0_3f32 ipu0_4f32 ipu0_5f32 ipu0_6f32 k34 k35 k36 k37 k38 kRwqf32 kpu0_3f32 kpu0_4f32 kpu0_5f32 kpu0_6f32 (show z24.toInt ≤ ln.toInt by omega) (show ∃ w : Nat → Int, (∀ k : Nat, k < 8 → (ww1_f32 k).toInt = w k) ∧ run (tb rt) ln.toInt.toNat (Int.toNat (z24.toInt)) (bh1_f32.toInt) w (Int.toNat (la1_f32.toInt)) (sx1_f32.toInt) (sy1_f32.toInt) = run (tb rt) ln.toInt.toNat 0 0 (fun _ => 0) 0 0 0 from (by
                obtain ⟨w, hw, hR⟩ := hv32_1
                obtain ⟨w1, hw1, ht1⟩ := (jtf32 w hw).1 (by omega)
                refine ⟨w1, hw1, ?_⟩
                rw [← hR, run_some (i := v32_2.toInt.toNat) (by omega) (by omega) ht1]
                exact congrArg (fun z_ => run (tb rt) ln.toInt.toNat z_ _ w1 _ _ _) (by omega)))
          · have c42 : r31.toInt = 0 := congrArg Int32.toInt c39
            have i43 : iv r31 0 0 := iv_Q c42 ir31 (iv_k (x := 0) (k := 0) rfl) (by decide)
            refine lv_iload_n hx hb dX7_read_72 rfl (lv_at hl 2 rfl) ?_
            exact u_iret C h hr hQ (⟨(iv_w i4 (by decide)), tf32, of32, ⟨sx1_f32, sy1_f32, bh1_f32, la1_f32, ww1_f32, ⟨kpu0_3f32, ipu0_3f32⟩, ⟨kpu0_4f32, ipu0_4f32⟩, ⟨kpu0_5f32, ipu0_5f32⟩, ⟨kpu0_6f32, ipu0_6f32⟩, kRwqf32, (by
                obtain ⟨w, hw, hR⟩ := hv32_1
                rw [← hR, run_none (i := v32_2.toInt.toNat) (by omega) (by omega) ((jtf32 w hw).2 (by omega))]
                exact ⟨by show _ = ((v32_2.toInt.toNat : Nat) : Int); omega, fun z_ => absurd z_ (by omega)⟩)⟩, k38⟩) (Nat.le_of_ble_eq_true rfl) (Nat.le_of_ble_eq_true rfl) dX7_read_73
  refine lv_aload_n hx hb dX7_read_0 rfl (lv_at hl 0 rfl) ?_
  refine t_getfd C h t hu0 (by decide) wf_11 (v := .ref wq) k_u0_2 fl_X7_15 dX7_read_1 ?_
  refine lv_iconst (v := 0) hx hb dX7_read_4 (by decide) ?_
  refine k_v (r_S C h hl (As := [.ref wq, .int 0]) (rest := []) (s_J7_fill_53178X l D G b0 τ f t wq hwq 0 (iv_w (iv_k (x := 0) (k := 0) rfl) (by decide)) ww hRwq) mk_J7_fill_53178 w_436 w_437 w_438 ⟨Nat.le_of_ble_eq_true rfl, Nat.le_of_ble_eq_true rfl⟩ rfl (Nat.le_of_ble_eq_true rfl) ⟨Nat.le_of_ble_eq_true rfl, Nat.le_of_ble_eq_true rfl⟩ rfl dX7_read_5) h (fun f45 H locs p46 h => ?_)
  obtain ⟨tf45, ogf45, ⟨ww1_f45, kRu0f45, pRu0f45⟩, fxf45⟩ := p46
  have of45 : Fr [11, 14, 11004, 11005, 11006, 11007] τ f f45 := Fr.tr o ogf45 (by decide) (by decide)
  have k47 := atp.fr k_u0_0 ogf45 hu0 (by decide)
  have k48 := atp.fr k_u0_1 ogf45 hu0 (by decide)
  have k49 := atp.fr k_u0_2 ogf45 hu0 (by decide)
  have k50 := atp.fr k_u0_3 ogf45 hu0 (by decide)
  have k51 := atp.fr k_u0_4 ogf45 hu0 (by decide)
  have k52 := atp.fr k_u0_5 ogf45 hu0 (by decide)
  have k53 := atp.fr k_u0_6 ogf45 hu0 (by decide)
  have k54 := atp.fr hRtq ogf45 htq (by decide)
  have k55 := FX.tr hfx fxf45 (by simp)
  refine lv_aload_n hx hb dX7_read_8 rfl (lv_at hl 0 rfl) ?_
  refine lv_iconst (v := 0) hx hb dX7_read_9 (by decide) ?_
  refine t_put C h tf45 of45 hu0 (by decide) (by decide) (by decide) wf_11 fw_11 (k := 3) rfl flw_X7_24 (Or.inr ⟨_, _, _, rfl, rfl⟩) (v := .int 0) rfl rfl ⟨_, rfl, ⟨by decide, by decide⟩⟩ dX7_read_10 (fun f56 H locs h tf56 of56 hq ha_ hn_ hk_ => ?_)
  have k57 := hk_ 0 _ (by decide) k47
  have k58 := hk_ 1 _ (by decide) k48
  have k59 := hk_ 2 _ (by decide) k49
  have k61 := hk_ 4 _ (by decide) k51
  have k62 := hk_ 5 _ (by decide) k52
  have k63 := hk_ 6 _ (by decide) k53
  have k64 := atp.tg k54 hq htq (by decide)
  have k65 := FX.up k55 hn_ (by simp)
  have k66 := atp.tg kRu0f45 hq hwq (by decide)
  have k67 := ha_
  refine lv_aload_n hx hb dX7_read_13 rfl (lv_at hl 0 rfl) ?_
  refine lv_iconst (v := 0) hx hb dX7_read_14 (by decide) ?_
  refine t_put C h tf56 of56 hu0 (by decide) (by decide) (by decide) wf_11 fw_11 (k := 4) rfl flw_X7_27 (Or.inr ⟨_, _, _, rfl, rfl⟩) (v := .int 0) rfl rfl ⟨_, rfl, ⟨by decide, by decide⟩⟩ dX7_read_15 (fun f68 H locs h tf68 of68 hq ha_ hn_ hk_ => ?_)
  have k69 := hk_ 0 _ (by decide) k57
  have k70 := hk_ 1 _ (by decide) k58
  have k71 := hk_ 2 _ (by decide) k59
  have k73 := hk_ 5 _ (by decide) k62
  have k74 := hk_ 6 _ (by decide) k63
  have k75 := atp.tg k64 hq htq (by decide)
  have k76 := FX.up k65 hn_ (by simp)
  have k77 := atp.tg k66 hq hwq (by decide)
  have k78 := hk_ 3 _ (by decide) k67
  have k79 := ha_
  refine lv_aload_n hx hb dX7_read_18 rfl (lv_at hl 0 rfl) ?_
  refine lv_iconst (v := 0) hx hb dX7_read_19 (by decide) ?_
  refine t_put C h tf68 of68 hu0 (by decide) (by decide) (by decide) wf_11 fw_11 (k := 5) rfl flw_X7_39 (Or.inr ⟨_, _, _, rfl, rfl⟩) (v := .int 0) rfl rfl ⟨_, rfl, ⟨by decide, by decide⟩⟩ dX7_read_20 (fun f80 H locs h tf80 of80 hq ha_ hn_ hk_ => ?_)
  have k81 := hk_ 0 _ (by decide) k69
  have k82 := hk_ 1 _ (by decide) k70
  have k83 := hk_ 2 _ (by decide) k71
  have k85 := hk_ 6 _ (by decide) k74
  have k86 := atp.tg k75 hq htq (by decide)
  have k87 := FX.up k76 hn_ (by simp)
  have k88 := atp.tg k77 hq hwq (by decide)
  have k89 := hk_ 3 _ (by decide) k78
  have k90 := hk_ 4 _ (by decide) k79
  have k91 := ha_
  refine lv_aload_n hx hb dX7_read_23 rfl (lv_at hl 0 rfl) ?_
  refine lv_iconst (v := 0) hx hb dX7_read_24 (by decide) ?_
  refine t_put C h tf80 of80 hu0 (by decide) (by decide) (by decide) wf_11 fw_11 (k := 6) rfl flw_X7_42 (Or.inr ⟨_, _, _, rfl, rfl⟩) (v := .int 0) rfl rfl ⟨_, rfl, ⟨by decide, by decide⟩⟩ dX7_read_25 (fun f92 H locs h tf92 of92 hq ha_ hn_ hk_ => ?_)
  have k93 := hk_ 0 _ (by decide) k81
  have k94 := hk_ 1 _ (by decide) k82
  have k95 := hk_ 2 _ (by decide) k83
  have k97 := atp.tg k86 hq htq (by decide)
  have k98 := FX.up k87 hn_ (by simp)
  have k99 := atp.tg k88 hq hwq (by decide)
  have k100 := hk_ 3 _ (by decide) k89
  have k101 := hk_ 4 _ (by decide) k90
  have k102 := hk_ 5 _ (by decide) k91
  have k103 := ha_
  refine lv_iconst (v := 0) hx hb dX7_read_28 (by decide) ?_
  refine lv_istore_n (lv' := [(1, .int 0), (0, .ref u0)]) hx hb dX7_read_29 rfl hl (by decide) rfl (fun ls hl => ?_)
  refine lv_iconst (v := 0) hx hb dX7_read_30 (by decide) ?_
  refine lv_istore_n (lv' := [(2, .int 0), (1, .int 0), (0, .ref u0)]) hx hb dX7_read_31 rfl hl (by decide) rfl (fun ls hl => ?_)
  exact L32 201 ls f92 H locs 0 ww1_f45 0 0 0 0 (by decide) (lv_cons hl 2 rfl (lv_cons hl 0 rfl (lv_nil hl))) h tf92 of92 ⟨by decide, by decide⟩ ⟨by decide, by decide⟩ ⟨by decide, by decide⟩ ⟨by decide, by decide⟩ ⟨by decide, by decide⟩ k93 k94 k95 k97 k98 k99 k100 k101 k102 k103 (show 0 ≤ ln.toInt by omega) (show ∃ w : Nat → Int, (∀ k : Nat, k < 8 → (ww1_f45 k).toInt = w k) ∧ run (tb rt) ln.toInt.toNat (Int.toNat (0)) (0) w (Int.toNat (0)) (0) (0) = run (tb rt) ln.toInt.toNat 0 0 (fun _ => 0) 0 0 0 from ⟨fun _ => 0, fun k hk => by rw [pRu0f45 k hk]; rfl, rfl⟩)
