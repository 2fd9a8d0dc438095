theorem dX7_stepNamed_0 : decode cX7_stepNamed 0 = .ok (.iload_n 2, 1) := by decide +kernel
theorem dX7_stepNamed_1 : decode cX7_stepNamed 1 = .ok (.iload_n 1, 1) := by decide +kernel
theorem dX7_stepNamed_2 : decode cX7_stepNamed 2 = .ok (.isub, 1) := by decide +kernel
theorem dX7_stepNamed_3 : decode cX7_stepNamed 3 = .ok (.iconst 2, 1) := by decide +kernel
theorem dX7_stepNamed_4 : decode cX7_stepNamed 4 = .ok (.if_icmp .ne 14, 3) := by decide +kernel
theorem dX7_stepNamed_18 : decode cX7_stepNamed 18 = .ok (.bipush 32, 2) := by decide +kernel
theorem dX7_stepNamed_20 : decode cX7_stepNamed 20 = .ok (.istore_n 3, 1) := by decide +kernel
theorem dX7_stepNamed_21 : decode cX7_stepNamed 21 = .ok (.iconst 0, 1) := by decide +kernel
theorem dX7_stepNamed_22 : decode cX7_stepNamed 22 = .ok (.istore 4, 2) := by decide +kernel
theorem dX7_stepNamed_7 : decode cX7_stepNamed 7 = .ok (.aload_n 0, 1) := by decide +kernel
theorem dX7_stepNamed_8 : decode cX7_stepNamed 8 = .ok (.getfield 11, 3) := by decide +kernel
theorem dX7_stepNamed_11 : decode cX7_stepNamed 11 = .ok (.iload_n 1, 1) := by decide +kernel
theorem dX7_stepNamed_12 : decode cX7_stepNamed 12 = .ok (.iconst 1, 1) := by decide +kernel
theorem dX7_stepNamed_13 : decode cX7_stepNamed 13 = .ok (.iadd, 1) := by decide +kernel
theorem dX7_stepNamed_14 : decode cX7_stepNamed 14 = .ok (.iaload, 1) := by decide +kernel
theorem dX7_stepNamed_15 : decode cX7_stepNamed 15 = .ok (.goto 5, 3) := by decide +kernel
theorem dX7_stepNamed_24 : decode cX7_stepNamed 24 = .ok (.iload 4, 2) := by decide +kernel
theorem dX7_stepNamed_26 : decode cX7_stepNamed 26 = .ok (.bipush 8, 2) := by decide +kernel
theorem dX7_stepNamed_28 : decode cX7_stepNamed 28 = .ok (.if_icmp .ge 52, 3) := by decide +kernel
theorem dX7_stepNamed_31 : decode cX7_stepNamed 31 = .ok (.iload_n 2, 1) := by decide +kernel
theorem dX7_stepNamed_32 : decode cX7_stepNamed 32 = .ok (.iload_n 1, 1) := by decide +kernel
theorem dX7_stepNamed_33 : decode cX7_stepNamed 33 = .ok (.isub, 1) := by decide +kernel
theorem dX7_stepNamed_34 : decode cX7_stepNamed 34 = .ok (.iconst 2, 1) := by decide +kernel
theorem dX7_stepNamed_35 : decode cX7_stepNamed 35 = .ok (.if_icmp .gt 45, 3) := by decide +kernel
theorem dX7_stepNamed_80 : decode cX7_stepNamed 80 = .ok (.iconst (-1), 1) := by decide +kernel
theorem dX7_stepNamed_38 : decode cX7_stepNamed 38 = .ok (.aload_n 0, 1) := by decide +kernel
theorem dX7_stepNamed_39 : decode cX7_stepNamed 39 = .ok (.getfield 11, 3) := by decide +kernel
theorem dX7_stepNamed_42 : decode cX7_stepNamed 42 = .ok (.iload_n 1, 1) := by decide +kernel
theorem dX7_stepNamed_43 : decode cX7_stepNamed 43 = .ok (.iaload, 1) := by decide +kernel
theorem dX7_stepNamed_44 : decode cX7_stepNamed 44 = .ok (.ldc 82, 2) := by decide +kernel
theorem dX7_stepNamed_46 : decode cX7_stepNamed 46 = .ok (.iconst 2, 1) := by decide +kernel
theorem dX7_stepNamed_47 : decode cX7_stepNamed 47 = .ok (.iload 4, 2) := by decide +kernel
theorem dX7_stepNamed_49 : decode cX7_stepNamed 49 = .ok (.imul, 1) := by decide +kernel
theorem dX7_stepNamed_50 : decode cX7_stepNamed 50 = .ok (.invokevirtual 84, 3) := by decide +kernel
theorem w_474 : Cond.selects yJ0_charAt_5068e.cls yJ0_charAt_5068e yJ0_charAt_5068e ∈ wAll := wI2 139 (by decide +kernel) (by decide +kernel)
theorem mk_J0_charAt_5068e : mk yJ0_charAt_5068e 1 := ⟨by decide +kernel, w_108⟩
theorem w_472 : Cond.methodLink "QuarterWalks$Tape" 84 yJ0_charAt_5068e ∈ wAll := wI2 137 (by decide +kernel) (by decide +kernel)
theorem w_473 : Cond.instanceMethod yJ0_charAt_5068e ∈ wAll := wI2 138 (by decide +kernel) (by decide +kernel)
theorem w_475 : Cond.code yJ0_charAt_5068e cJ0_charAt_5068e 2 (some .char) ∈ wAll := wI2 140 (by decide +kernel) (by decide +kernel)
theorem dX7_stepNamed_53 : decode cX7_stepNamed 53 = .ok (.if_icmp .ne 21, 3) := by decide +kernel
theorem dX7_stepNamed_74 : decode cX7_stepNamed 74 = .ok (.iinc 4 1, 3) := by decide +kernel
theorem dX7_stepNamed_77 : decode cX7_stepNamed 77 = .ok (.goto (-53), 3) := by decide +kernel
theorem dX7_stepNamed_56 : decode cX7_stepNamed 56 = .ok (.iload_n 3, 1) := by decide +kernel
theorem dX7_stepNamed_57 : decode cX7_stepNamed 57 = .ok (.ldc 82, 2) := by decide +kernel
theorem dX7_stepNamed_59 : decode cX7_stepNamed 59 = .ok (.iconst 2, 1) := by decide +kernel
theorem dX7_stepNamed_60 : decode cX7_stepNamed 60 = .ok (.iload 4, 2) := by decide +kernel
theorem dX7_stepNamed_62 : decode cX7_stepNamed 62 = .ok (.imul, 1) := by decide +kernel
theorem dX7_stepNamed_63 : decode cX7_stepNamed 63 = .ok (.iconst 1, 1) := by decide +kernel
theorem dX7_stepNamed_64 : decode cX7_stepNamed 64 = .ok (.iadd, 1) := by decide +kernel
theorem dX7_stepNamed_65 : decode cX7_stepNamed 65 = .ok (.invokevirtual 84, 3) := by decide +kernel
theorem dX7_stepNamed_68 : decode cX7_stepNamed 68 = .ok (.if_icmp .ne 6, 3) := by decide +kernel
theorem dX7_stepNamed_71 : decode cX7_stepNamed 71 = .ok (.iload 4, 2) := by decide +kernel
theorem dX7_stepNamed_81 : decode cX7_stepNamed 81 = .ok (.ireturn, 1) := by decide +kernel
theorem dX7_stepNamed_73 : decode cX7_stepNamed 73 = .ok (.ireturn, 1) := by decide +kernel
theorem dX7_takesFrom_0 : decode cX7_takesFrom 0 = .ok (.iload_n 2, 1) := by decide +kernel
theorem dX7_takesFrom_1 : decode cX7_takesFrom 1 = .ok (.iload_n 1, 1) := by decide +kernel
theorem dX7_takesFrom_2 : decode cX7_takesFrom 2 = .ok (.isub, 1) := by decide +kernel
theorem dX7_takesFrom_3 : decode cX7_takesFrom 3 = .ok (.iconst 4, 1) := by decide +kernel
theorem dX7_takesFrom_4 : decode cX7_takesFrom 4 = .ok (.if_icmp .ne 53, 3) := by decide +kernel
theorem dX7_takesFrom_57 : decode cX7_takesFrom 57 = .ok (.iconst 0, 1) := by decide +kernel
theorem dX7_takesFrom_7 : decode cX7_takesFrom 7 = .ok (.aload_n 0, 1) := by decide +kernel
theorem dX7_takesFrom_8 : decode cX7_takesFrom 8 = .ok (.getfield 11, 3) := by decide +kernel
theorem dX7_takesFrom_11 : decode cX7_takesFrom 11 = .ok (.iload_n 1, 1) := by decide +kernel
theorem dX7_takesFrom_12 : decode cX7_takesFrom 12 = .ok (.iaload, 1) := by decide +kernel
theorem dX7_takesFrom_13 : decode cX7_takesFrom 13 = .ok (.bipush 102, 2) := by decide +kernel
theorem dX7_takesFrom_15 : decode cX7_takesFrom 15 = .ok (.if_icmp .ne 42, 3) := by decide +kernel
theorem dX7_takesFrom_18 : decode cX7_takesFrom 18 = .ok (.aload_n 0, 1) := by decide +kernel
theorem dX7_takesFrom_19 : decode cX7_takesFrom 19 = .ok (.getfield 11, 3) := by decide +kernel
theorem dX7_takesFrom_22 : decode cX7_takesFrom 22 = .ok (.iload_n 1, 1) := by decide +kernel
theorem dX7_takesFrom_23 : decode cX7_takesFrom 23 = .ok (.iconst 1, 1) := by decide +kernel
theorem dX7_takesFrom_24 : decode cX7_takesFrom 24 = .ok (.iadd, 1) := by decide +kernel
theorem dX7_takesFrom_25 : decode cX7_takesFrom 25 = .ok (.iaload, 1) := by decide +kernel
theorem dX7_takesFrom_26 : decode cX7_takesFrom 26 = .ok (.bipush 114, 2) := by decide +kernel
theorem dX7_takesFrom_28 : decode cX7_takesFrom 28 = .ok (.if_icmp .ne 29, 3) := by decide +kernel
theorem dX7_takesFrom_31 : decode cX7_takesFrom 31 = .ok (.aload_n 0, 1) := by decide +kernel
theorem dX7_takesFrom_32 : decode cX7_takesFrom 32 = .ok (.getfield 11, 3) := by decide +kernel
theorem dX7_takesFrom_35 : decode cX7_takesFrom 35 = .ok (.iload_n 1, 1) := by decide +kernel
theorem dX7_takesFrom_36 : decode cX7_takesFrom 36 = .ok (.iconst 2, 1) := by decide +kernel
theorem dX7_takesFrom_37 : decode cX7_takesFrom 37 = .ok (.iadd, 1) := by decide +kernel
theorem dX7_takesFrom_38 : decode cX7_takesFrom 38 = .ok (.iaload, 1) := by decide +kernel
theorem dX7_takesFrom_39 : decode cX7_takesFrom 39 = .ok (.bipush 111, 2) := by decide +kernel
theorem dX7_takesFrom_41 : decode cX7_takesFrom 41 = .ok (.if_icmp .ne 16, 3) := by decide +kernel
theorem dX7_takesFrom_44 : decode cX7_takesFrom 44 = .ok (.aload_n 0, 1) := by decide +kernel
theorem dX7_takesFrom_45 : decode cX7_takesFrom 45 = .ok (.getfield 11, 3) := by decide +kernel
theorem dX7_takesFrom_48 : decode cX7_takesFrom 48 = .ok (.iload_n 1, 1) := by decide +kernel
theorem dX7_takesFrom_49 : decode cX7_takesFrom 49 = .ok (.iconst 3, 1) := by decide +kernel
theorem dX7_takesFrom_50 : decode cX7_takesFrom 50 = .ok (.iadd, 1) := by decide +kernel
theorem dX7_takesFrom_51 : decode cX7_takesFrom 51 = .ok (.iaload, 1) := by decide +kernel
theorem dX7_takesFrom_52 : decode cX7_takesFrom 52 = .ok (.bipush 109, 2) := by decide +kernel
theorem dX7_takesFrom_54 : decode cX7_takesFrom 54 = .ok (.if_icmp .eq 5, 3) := by decide +kernel
theorem dX7_takesFrom_59 : decode cX7_takesFrom 59 = .ok (.aload_n 0, 1) := by decide +kernel
theorem dX7_takesFrom_60 : decode cX7_takesFrom 60 = .ok (.iconst 4, 1) := by decide +kernel
theorem dX7_takesFrom_61 : decode cX7_takesFrom 61 = .ok (.putfield 39, 3) := by decide +kernel
theorem dX7_takesFrom_64 : decode cX7_takesFrom 64 = .ok (.iconst 1, 1) := by decide +kernel
theorem dX7_takesFrom_58 : decode cX7_takesFrom 58 = .ok (.ireturn, 1) := by decide +kernel
theorem dX7_takesFrom_65 : decode cX7_takesFrom 65 = .ok (.ireturn, 1) := by decide +kernel
theorem dX7_takesStep_0 : decode cX7_takesStep 0 = .ok (.aload_n 0, 1) := by decide +kernel
theorem dX7_takesStep_1 : decode cX7_takesStep 1 = .ok (.iload_n 1, 1) := by decide +kernel
theorem dX7_takesStep_2 : decode cX7_takesStep 2 = .ok (.iload_n 2, 1) := by decide +kernel
theorem dX7_takesStep_3 : decode cX7_takesStep 3 = .ok (.invokevirtual 79, 3) := by decide +kernel
theorem w_467 : Cond.methodLink "QuarterWalks$Tape" 79 yX7_stepNamed ∈ wAll := wI2 132 (by decide +kernel) (by decide +kernel)
theorem w_6 : Cond.selects yX7_stepNamed.cls yX7_stepNamed yX7_stepNamed ∈ wAll := wIn 6 (by decide +kernel) (by decide +kernel)
theorem mk_X7_stepNamed : mk yX7_stepNamed 2 := ⟨by decide +kernel, w_97⟩
theorem w_469 : Cond.instanceMethod yX7_stepNamed ∈ wAll := wI2 134 (by decide +kernel) (by decide +kernel)
theorem w_470 : Cond.code yX7_stepNamed cX7_stepNamed 5 (some .int) ∈ wAll := wI2 135 (by decide +kernel) (by decide +kernel)
theorem dX7_takesStep_6 : decode cX7_takesStep 6 = .ok (.istore_n 3, 1) := by decide +kernel
theorem dX7_takesStep_7 : decode cX7_takesStep 7 = .ok (.aload_n 0, 1) := by decide +kernel
theorem dX7_takesStep_8 : decode cX7_takesStep 8 = .ok (.getfield 39, 3) := by decide +kernel
theorem dX7_takesStep_11 : decode cX7_takesStep 11 = .ok (.iconst 2, 1) := by decide +kernel
theorem dX7_takesStep_12 : decode cX7_takesStep 12 = .ok (.if_icmp .gt 17, 3) := by decide +kernel
theorem dX7_takesStep_29 : decode cX7_takesStep 29 = .ok (.iconst 0, 1) := by decide +kernel
theorem dX7_takesStep_15 : decode cX7_takesStep 15 = .ok (.iload_n 3, 1) := by decide +kernel
theorem dX7_takesStep_16 : decode cX7_takesStep 16 = .ok (.iconst (-1), 1) := by decide +kernel
theorem dX7_takesStep_17 : decode cX7_takesStep 17 = .ok (.if_icmp .eq 12, 3) := by decide +kernel
theorem dX7_takesStep_20 : decode cX7_takesStep 20 = .ok (.aload_n 0, 1) := by decide +kernel
theorem dX7_takesStep_21 : decode cX7_takesStep 21 = .ok (.getfield 15, 3) := by decide +kernel
theorem dX7_takesStep_24 : decode cX7_takesStep 24 = .ok (.iload_n 3, 1) := by decide +kernel
theorem dX7_takesStep_25 : decode cX7_takesStep 25 = .ok (.iaload, 1) := by decide +kernel
theorem dX7_takesStep_26 : decode cX7_takesStep 26 = .ok (.ifCond .eq 5, 3) := by decide +kernel
theorem dX7_takesStep_31 : decode cX7_takesStep 31 = .ok (.aload_n 0, 1) := by decide +kernel
theorem dX7_takesStep_32 : decode cX7_takesStep 32 = .ok (.getfield 15, 3) := by decide +kernel
theorem dX7_takesStep_35 : decode cX7_takesStep 35 = .ok (.iload_n 3, 1) := by decide +kernel
theorem dX7_takesStep_36 : decode cX7_takesStep 36 = .ok (.iconst 1, 1) := by decide +kernel
theorem dX7_takesStep_37 : decode cX7_takesStep 37 = .ok (.iastore, 1) := by decide +kernel
theorem dX7_takesStep_38 : decode cX7_takesStep 38 = .ok (.aload_n 0, 1) := by decide +kernel
theorem dX7_takesStep_39 : decode cX7_takesStep 39 = .ok (.iload_n 3, 1) := by decide +kernel
theorem dX7_takesStep_40 : decode cX7_takesStep 40 = .ok (.putfield 42, 3) := by decide +kernel
theorem flw_X7_42 : flw RX7 42 8 6 (.int) := ⟨RX7, TX7, 7, tyX7, rfl, inA_X7, by decide, w_145, tyX7_ok, nmX7, by decide +kernel, Or.inl rfl⟩
theorem dX7_takesStep_43 : decode cX7_takesStep 43 = .ok (.aload_n 0, 1) := by decide +kernel
theorem dX7_takesStep_44 : decode cX7_takesStep 44 = .ok (.iconst 1, 1) := by decide +kernel
theorem dX7_takesStep_45 : decode cX7_takesStep 45 = .ok (.putfield 39, 3) := by decide +kernel
theorem dX7_takesStep_48 : decode cX7_takesStep 48 = .ok (.iconst 1, 1) := by decide +kernel
theorem dX7_takesStep_30 : decode cX7_takesStep 30 = .ok (.ireturn, 1) := by decide +kernel
theorem dX7_takesStep_49 : decode cX7_takesStep 49 = .ok (.ireturn, 1) := by decide +kernel
abbrev rm_s_J7_fill_53178X : Room := { frames := 0, cells := 0, slots := 0, locals := 0 }
set_option maxRecDepth 100000 in
set_option maxHeartbeats 4000000 in
theorem s_J7_fill_53178X (l : Launch) (D : va_G) (G : Nat → Nat) (b0 : Nat) (τ : Nat → Nat) (f : hM) (t : TI G 9 τ f) (u0 : Nat) (hu0 : τ u0 = 14) (u1 : Int32) (hu1 : iv u1 0 0) (ww : Nat → Int32) (hRu0 : atp f u0 (eqc (.inl (G 1, 8, .inl ww)))) : mV l yJ7_fill_53178 cJ7_fill_53178 4 rm_s_J7_fill_53178X D G b0 f [.ref u0, .int u1] (fun f1 => TI G 9 τ f1 ∧ Fr [14] τ f f1 ∧ (∃ ww1 : Nat → Int32, atp f1 u0 (eqc (.inl (G 1, 8, .inl ww1))) ∧ (∀ k : Nat, k < 8 → ww1 k = u1)) ∧ FX [u0] f f1) := by
  refine met2 (own := RJ7) (by decide) rfl (Nat.le_of_ble_eq_true rfl) ?_
  intro p e s m args below meth c ls Q hQ C hr hini hl h
  have hl : lv_has ls 4 [(0, .ref u0), (1, .int u1)] := hl
  obtain ⟨hx, hb, hml, hown, hts, hE0, hlk⟩ := id C
  have o := Fr.rf [14] τ f
  have hfx := FX.rf [u0] f
  have L5 : ∀ (n5 : Nat) (ls : Array Slot) (f_5 : hM) (H : Heap) (locs : List Loc) (v5_2 : Int32) (v5_3 : Int32) (g5_u0_R : Nat → Int32), 8 - v5_2.toInt < (n5 : Int) → lv_has ls 4 [(0, .ref u0), (1, .int u1), (2, .int v5_2), (3, .int v5_3)] → hw D b0 s.heap f_5 H locs → TI G 9 τ f_5 → Fr [14] τ f f_5 → iv v5_2 0 8 → iv v5_3 8 8 → atp f_5 u0 (eqc (.inl (G 1, 8, .inl g5_u0_R))) → FX [u0] f f_5 → (∀ k : Nat, g5_u0_R k = if (k : Int) < v5_2.toInt then u1 else ww k) → W p l e rm_s_J7_fill_53178X s m args below meth c H locs 0 0 Q (F0 m 5 ls []) := by
    intro n5
    induction n5 with
    | zero => intro ls f_5 H locs v5_2 v5_3 g5_u0_R hm5 hl h t_5 o_5 iv5_2 iv5_3 k5_u0_R k5_fx_FX hv5_0; exact absurd hm5 (by omega)
    | succ n5 ih5 =>
      intro ls f_5 H locs v5_2 v5_3 g5_u0_R hm5 hl h t_5 o_5 iv5_2 iv5_3 k5_u0_R k5_fx_FX hv5_0
      refine lv_iload_n hx hb dJ7_fill_53178_5 rfl (lv_at hl 2 rfl) ?_
      refine lv_iload_n hx hb dJ7_fill_53178_6 rfl (lv_at hl 3 rfl) ?_
      refine lv_icmp_ge (tgt := 20) hx hb dJ7_fill_53178_7 (by decide) (fun c1 => ?_) (fun c1 => ?_)
      · have c2 : v5_3.toInt ≤ v5_2.toInt := Int32.le_iff_toInt_le.mp c1
        have i3 : iv v5_2 8 8 := iv_Er c2 iv5_3 iv5_2 (by decide)
        exact u_vret C h hr hQ (⟨t_5, o_5, ⟨g5_u0_R, k5_u0_R, (fun k hk => by rw [hv5_0 k, if_pos (by omega)])⟩, k5_fx_FX⟩) (Nat.le_of_ble_eq_true rfl) (Nat.le_of_ble_eq_true rfl) dJ7_fill_53178_20
      · have c4 : v5_2.toInt < v5_3.toInt := Int32.lt_iff_toInt_lt.mp (iv_nle c1)
        have i5 : iv v5_2 0 7 := iv_Ll c4 iv5_2 iv5_3 (by decide)
        refine lv_aload_n hx hb dJ7_fill_53178_10 rfl (lv_at hl 0 rfl) ?_
        refine lv_iload_n hx hb dJ7_fill_53178_11 rfl (lv_at hl 2 rfl) ?_
        refine lv_iload_n hx hb dJ7_fill_53178_12 rfl (lv_at hl 1 rfl) ?_
        refine e_iast C h t_5 o_5 hu0 (by decide) (by decide) wf_14 fw_14 k5_u0_R (iv_in i5 (by decide)) (iv_w hu1 (by decide)) dJ7_fill_53178_13 (fun R8 f6 erR8 H locs h tf6 of6 hq hn_ k7 => ?_)
        have k10 := FX.up k5_fx_FX hn_ (by simp)
        refine i_inc hx hb dJ7_fill_53178_14 hl (k := 2) rfl i5 rfl (lo := 1) (hi := 8) (by decide) (by decide) (lv' := fun v => [(2, .int v), (0, .ref u0), (1, .int u1), (3, .int v5_3)]) (fun _ => rfl) (fun z11 ls ez11 mz11 iz11 hl => ?_)
        refine lv_goto (tgt := 5) hx hb dJ7_fill_53178_17 (by decide) ?_
        exact ih5 ls f6 H locs z11 v5_3 R8 (show 8 - z11.toInt < _ by omega) (lv_cons hl 1 rfl (lv_cons hl 2 rfl (lv_cons hl 0 rfl (lv_cons hl 3 rfl (lv_nil hl))))) h tf6 of6 (iv_w iz11 (by decide)) iv5_3 k7 k10 (show ∀ k : Nat, R8 k = if (k : Int) < z11.toInt then u1 else ww k from (by
            intro k; rw [erR8]; by_cases q_ : k = v5_2.toInt.toNat
            · rw [upd_at q_]; (repeat' split) <;> first | rfl | (exfalso; omega) | (exact congrArg _ (by omega))
            · rw [upd_off q_, hv5_0 k]; (repeat' split) <;> first | rfl | (exfalso; omega) | (exact congrArg _ (by omega))))
  refine lv_iconst (v := 0) hx hb dJ7_fill_53178_0 (by decide) ?_
  refine lv_istore_n (lv' := [(2, .int 0), (0, .ref u0), (1, .int u1)]) hx hb dJ7_fill_53178_1 rfl hl (by decide) rfl (fun ls hl => ?_)
  refine lv_aload_n hx hb dJ7_fill_53178_2 rfl (lv_at hl 1 rfl) ?_
  refine t_alen C h t hu0 (by decide) (n := 8) (v := 8) (fun e_ h_ => Or.inl ⟨_, _, wf_14 e_ h_⟩) rfl dJ7_fill_53178_3 ?_
  refine lv_istore_n (lv' := [(3, .int 8), (2, .int 0), (0, .ref u0), (1, .int u1)]) hx hb dJ7_fill_53178_4 rfl hl (by decide) rfl (fun ls hl => ?_)
  exact L5 9 ls f s.heap [] 0 8 ww (by decide) (lv_cons hl 2 rfl (lv_cons hl 3 rfl (lv_cons hl 1 rfl (lv_cons hl 0 rfl (lv_nil hl))))) h t o ⟨by decide, by decide⟩ ⟨by decide, by decide⟩ hRu0 hfx (show ∀ k : Nat, ww k = if (k : Int) < 0 then u1 else ww k from (by
      intro k; (repeat' split) <;> first | rfl | (exfalso; omega) | (exact congrArg _ (by omega))))
abbrev rm_s_X7_stepNamedX : Room := { frames := 4, cells := 0, slots := 0, locals := 85 }
set_option maxRecDepth 100000 in
set_option maxHeartbeats 4000000 in
theorem s_X7_stepNamedX (l : Launch) (D : va_G) (G : Nat → Nat) (b0 : Nat) (τ : Nat → Nat) (f : hM) (t : TI G 9 τ f) (u0 : Nat) (hu0 : τ u0 = 11) (u1 : Int32) (hu1 : iv u1 0 199) (u2 : Int32) (hu2 : iv u2 1 200) (tq : Nat) (htq : τ tq = 13) (k_u0_1 : atp f u0 (fd 1 (.ref tq))) (rt : Nat → Int32) (hRtq : atp f tq (eqc (.inl (G 1, 200, .inl rt)))) (hr0 : u1.toInt < u2.toInt) : mI l yX7_stepNamed cX7_stepNamed 5 (.int) rm_s_X7_stepNamedX D G b0 f [.ref u0, .int u1, .int u2] (fun r f1 => iv r (-1) 7 ∧ TI G 9 τ f1 ∧ Fr [] τ f f1 ∧ (r.toInt = stpn (tb rt) u1.toInt.toNat u2.toInt.toNat)) := by
  refine met2 (own := RX7) (by decide) rfl (Nat.le_of_ble_eq_true rfl) ?_
  intro p e s m args below meth c ls Q hQ C hr hini hl h
  have hl : lv_has ls 5 [(0, .ref u0), (1, .int u1), (2, .int u2)] := hl
  obtain ⟨hx, hb, hml, hown, hts, hE0, hlk⟩ := id C
  have o := Fr.rf [] τ f
  have L24 : ∀ (n24 : Nat) (ls : Array Slot) (f_24 : hM) (H : Heap) (locs : List Loc) (v24_3 : Int32) (v24_4 : Int32), 8 - v24_4.toInt < (n24 : Int) → lv_has ls 5 [(0, .ref u0), (1, .int u1), (2, .int u2), (3, .int v24_3), (4, .int v24_4)] → hw D b0 s.heap f_24 H locs → TI G 9 τ f_24 → Fr [] τ f f_24 → iv v24_3 0 255 → iv v24_4 0 8 → atp f_24 u0 (fd 1 (.ref tq)) → atp f_24 tq (eqc (.inl (G 1, 200, .inl rt))) → (v24_3.toInt = (if u2.toInt.toNat = u1.toInt.toNat + 2 then tb rt (u1.toInt.toNat + 1) else 32)) → (ns (tb rt u1.toInt.toNat) (if u2.toInt.toNat = u1.toInt.toNat + 2 then tb rt (u1.toInt.toNat + 1) else 32) (8 - Int.toNat (v24_4.toInt)) (Int.toNat (v24_4.toInt)) = ns (tb rt u1.toInt.toNat) (if u2.toInt.toNat = u1.toInt.toNat + 2 then tb rt (u1.toInt.toNat + 1) else 32) 8 0) → W p l e rm_s_X7_stepNamedX s m args below meth c H locs 0 0 Q (F0 m 24 ls []) := by
    intro n24
    induction n24 with
    | zero => intro ls f_24 H locs v24_3 v24_4 hm24 hl h t_24 o_24 iv24_3 iv24_4 k24_u0_1 k24_tq_R hv24_0 hv24_1; exact absurd hm24 (by omega)
    | succ n24 ih24 =>
      intro ls f_24 H locs v24_3 v24_4 hm24 hl h t_24 o_24 iv24_3 iv24_4 k24_u0_1 k24_tq_R hv24_0 hv24_1
      refine lv_iload hx hb dX7_stepNamed_24 (lv_at hl 4 rfl) ?_
      refine lv_bipush (v := 8) hx hb dX7_stepNamed_26 (by decide) ?_
      refine lv_icmp_ge (tgt := 80) hx hb dX7_stepNamed_28 (by decide) (fun c1 => ?_) (fun c1 => ?_)
      · have c2 : 8 ≤ v24_4.toInt := Int32.le_iff_toInt_le.mp c1
        have i3 : iv v24_4 8 8 := iv_Er c2 (iv_k (x := 8) (k := 8) rfl) iv24_4 (by decide)
        refine lv_iconst (v := -1) hx hb dX7_stepNamed_80 (by decide) ?_
        exact u_iret C h hr hQ (⟨⟨by decide, by decide⟩, t_24, o_24, (by
            have n_ : (-1 : Int32).toInt = -1 := rfl
            unfold stpn; by_cases q_ : u2.toInt.toNat ≤ u1.toInt.toNat + 2
            · rw [if_pos q_, ← hv24_1, show 8 - v24_4.toInt.toNat = 0 by omega, ns]; exact n_
            · rw [if_neg q_]; exact n_)⟩) (Nat.le_of_ble_eq_true rfl) (Nat.le_of_ble_eq_true rfl) dX7_stepNamed_81
      · have c4 : v24_4.toInt < 8 := Int32.lt_iff_toInt_lt.mp (iv_nle c1)
        have i5 : iv v24_4 0 7 := iv_Ll c4 iv24_4 (iv_k (x := 8) (k := 8) rfl) (by decide)
        refine lv_iload_n hx hb dX7_stepNamed_31 rfl (lv_at hl 2 rfl) ?_
        refine lv_iload_n hx hb dX7_stepNamed_32 rfl (lv_at hl 1 rfl) ?_
        refine i_sub hx hb dX7_stepNamed_33 hu2 hu1 (lo := (-198)) (hi := 200) (by decide) (fun z6 ez6 mz6 iz6 => ?_)
        refine lv_iconst (v := 2) hx hb dX7_stepNamed_34 (by decide) ?_
        refine lv_icmp_gt (tgt := 80) hx hb dX7_stepNamed_35 (by decide) (fun c7 => ?_) (fun c7 => ?_)
        · have c8 : 2 < z6.toInt := Int32.lt_iff_toInt_lt.mp c7
          have i9 : iv z6 3 200 := iv_Lr c8 (iv_k (x := 2) (k := 2) rfl) iz6 (by decide)
          refine lv_iconst (v := -1) hx hb dX7_stepNamed_80 (by decide) ?_
          exact u_iret C h hr hQ (⟨⟨by decide, by decide⟩, t_24, o_24, (by
              have n_ : (-1 : Int32).toInt = -1 := rfl
              unfold stpn; by_cases q_ : u2.toInt.toNat ≤ u1.toInt.toNat + 2
              · rw [if_pos q_, ← hv24_1, show 8 - v24_4.toInt.toNat = 0 by omega, ns]; exact n_
              · rw [if_neg q_]; exact n_)⟩) (Nat.le_of_ble_eq_true rfl) (Nat.le_of_ble_eq_true rfl) dX7_stepNamed_81
        · have c10 : z6.toInt ≤ 2 := Int32.le_iff_toInt_le.mp (iv_nlt c7)
          have i11 : iv z6 (-198) 2 := iv_El c10 iz6 (iv_k (x := 2) (k := 2) rfl) (by decide)
          refine lv_aload_n hx hb dX7_stepNamed_38 rfl (lv_at hl 0 rfl) ?_
          refine t_getfd C h t_24 hu0 (by decide) wf_11 (v := .ref tq) k24_u0_1 fl_X7_11 dX7_stepNamed_39 ?_
          refine lv_iload_n hx hb dX7_stepNamed_42 rfl (lv_at hl 1 rfl) ?_
          refine e_iald C h t_24 htq (by decide) wf_13 k24_tq_R (iv_in hu1 (by decide)) dX7_stepNamed_43 (fun z12 ez12 iz12 => ?_)
          have mz12 := congrArg Int32.toInt ez12
          have qz12 : tb rt u1.toInt.toNat = z12.toInt := mz12.symm
          refine va_ldcS hx hb hown (hE0.2.2.2.2.2.2.2.2.1 ("QuarterWalks$Tape", 82, "n nee ses sww nw", 11) (by decide)) dX7_stepNamed_44 ?_
          refine lv_iconst (v := 2) hx hb dX7_stepNamed_46 (by decide) ?_
          refine lv_iload hx hb dX7_stepNamed_47 (lv_at hl 4 rfl) ?_
          refine i_cmul hx hb dX7_stepNamed_49 (k := 2) rfl i5 (lo := 0) (hi := 14) (by decide) (fun z13 ez13 mz13 iz13 => ?_)
          have hrv := vk_recv hE0.2.2.2.2.2.2.2.2.2.1 (i := 11) (by decide) h.2.2.1
          refine k_i (r_VK C h hl (As := [.int z13]) (rest := [.int z12]) (c_charAt l D G b0 f_24 11 (by decide) z13 (have n_ : (nI (str_len.getD 11 0)).toInt = 16 := (by decide); by omega) (ix_o (n := 16) (by omega))) hrv mk_J0_charAt_5068e w_472 w_473 w_474 w_475 ⟨(Nat.le_of_ble_eq_true rfl), (Nat.le_of_ble_eq_true rfl)⟩ rfl (Nat.le_of_ble_eq_true rfl) ⟨(Nat.le_of_ble_eq_true rfl), (Nat.le_of_ble_eq_true rfl)⟩ rfl dX7_stepNamed_50) h (fun r14 f15 H locs p16 h => ?_)
          obtain ⟨er14, rfl⟩ := p16
          have ir14 : iv r14 0 255 := by rw [er14]; exact sch_iv _ _
          have mr14 : r14.toInt = nC v24_4.toInt.toNat := by rw [er14]; exact sch_c (by omega) (by omega)
          refine lv_icmp_ne (tgt := 74) hx hb dX7_stepNamed_53 (by decide) (fun c17 => ?_) (fun c17 => ?_)
          · have c18 : z12.toInt ≠ r14.toInt := fun z_ => c17 (Int32.toInt_inj.mp z_)
            refine i_inc hx hb dX7_stepNamed_74 hl (k := 4) rfl i5 rfl (lo := 1) (hi := 8) (by decide) (by decide) (lv' := fun v => [(4, .int v), (0, .ref u0), (1, .int u1), (2, .int u2), (3, .int v24_3)]) (fun _ => rfl) (fun z20 ls ez20 mz20 iz20 hl => ?_)
            refine lv_goto (tgt := 24) hx hb dX7_stepNamed_77 (by decide) ?_
            exact ih24 ls f_24 H locs v24_3 z20 (show 8 - z20.toInt < _ by omega) (lv_cons hl 1 rfl (lv_cons hl 2 rfl (lv_cons hl 3 rfl (lv_cons hl 4 rfl (lv_cons hl 0 rfl (lv_nil hl)))))) h t_24 o_24 iv24_3 (iv_w iz20 (by decide)) k24_u0_1 k24_tq_R (show v24_3.toInt = (if u2.toInt.toNat = u1.toInt.toNat + 2 then tb rt (u1.toInt.toNat + 1) else 32) from hv24_0) (show ns (tb rt u1.toInt.toNat) (if u2.toInt.toNat = u1.toInt.toNat + 2 then tb rt (u1.toInt.toNat + 1) else 32) (8 - Int.toNat (z20.toInt)) (Int.toNat (z20.toInt)) = ns (tb rt u1.toInt.toNat) (if u2.toInt.toNat = u1.toInt.toNat + 2 then tb rt (u1.toInt.toNat + 1) else 32) 8 0 from (by rw [ns_s (k := v24_4.toInt.toNat) (by omega) (by omega) (by omega)]; exact hv24_1))
          · have c19 : z12.toInt = r14.toInt := congrArg Int32.toInt c17
            refine lv_iload_n hx hb dX7_stepNamed_56 rfl (lv_at hl 3 rfl) ?_
            refine va_ldcS hx hb hown (hE0.2.2.2.2.2.2.2.2.1 ("QuarterWalks$Tape", 82, "n nee ses sww nw", 11) (by decide)) dX7_stepNamed_57 ?_
            refine lv_iconst (v := 2) hx hb dX7_stepNamed_59 (by decide) ?_
            refine lv_iload hx hb dX7_stepNamed_60 (lv_at hl 4 rfl) ?_
            refine i_cmul hx hb dX7_stepNamed_62 (k := 2) rfl i5 (lo := 0) (hi := 14) (by decide) (fun z21 ez21 mz21 iz21 => ?_)
            refine lv_iconst (v := 1) hx hb dX7_stepNamed_63 (by decide) ?_
            refine i_addk hx hb dX7_stepNamed_64 iz21 (k := 1) rfl (lo := 1) (hi := 15) (by decide) (fun z22 ez22 mz22 iz22 => ?_)
            have hrv := vk_recv hE0.2.2.2.2.2.2.2.2.2.1 (i := 11) (by decide) h.2.2.1
            refine k_i (r_VK C h hl (As := [.int z22]) (rest := [.int v24_3]) (c_charAt l D G b0 f_24 11 (by decide) z22 (have n_ : (nI (str_len.getD 11 0)).toInt = 16 := (by decide); by omega) (ix_o (n := 16) (by omega))) hrv mk_J0_charAt_5068e w_472 w_473 w_474 w_475 ⟨(Nat.le_of_ble_eq_true rfl), (Nat.le_of_ble_eq_true rfl)⟩ rfl (Nat.le_of_ble_eq_true rfl) ⟨(Nat.le_of_ble_eq_true rfl), (Nat.le_of_ble_eq_true rfl)⟩ rfl dX7_stepNamed_65) h (fun r23 f24 H locs p25 h => ?_)
            obtain ⟨er23, rfl⟩ := p25
            have ir23 : iv r23 0 255 := by rw [er23]; exact sch_iv _ _
            have mr23 : r23.toInt = nD v24_4.toInt.toNat := by rw [er23]; exact sch_d (by omega) (by omega)
            refine lv_icmp_ne (tgt := 74) hx hb dX7_stepNamed_68 (by decide) (fun c26 => ?_) (fun c26 => ?_)
            · have c27 : v24_3.toInt ≠ r23.toInt := fun z_ => c26 (Int32.toInt_inj.mp z_)
              refine i_inc hx hb dX7_stepNamed_74 hl (k := 4) rfl i5 rfl (lo := 1) (hi := 8) (by decide) (by decide) (lv' := fun v => [(4, .int v), (0, .ref u0), (1, .int u1), (2, .int u2), (3, .int v24_3)]) (fun _ => rfl) (fun z29 ls ez29 mz29 iz29 hl => ?_)
              refine lv_goto (tgt := 24) hx hb dX7_stepNamed_77 (by decide) ?_
              exact ih24 ls f_24 H locs v24_3 z29 (show 8 - z29.toInt < _ by omega) (lv_cons hl 1 rfl (lv_cons hl 2 rfl (lv_cons hl 3 rfl (lv_cons hl 4 rfl (lv_cons hl 0 rfl (lv_nil hl)))))) h t_24 o_24 iv24_3 (iv_w iz29 (by decide)) k24_u0_1 k24_tq_R (show v24_3.toInt = (if u2.toInt.toNat = u1.toInt.toNat + 2 then tb rt (u1.toInt.toNat + 1) else 32) from hv24_0) (show ns (tb rt u1.toInt.toNat) (if u2.toInt.toNat = u1.toInt.toNat + 2 then tb rt (u1.toInt.toNat + 1) else 32) (8 - Int.toNat (z29.toInt)) (Int.toNat (z29.toInt)) = ns (tb rt u1.toInt.toNat) (if u2.toInt.toNat = u1.toInt.toNat + 2 then tb rt (u1.toInt.toNat + 1) else 32) 8 0 from (by rw [ns_s (k := v24_4.toInt.toNat) (by omega) (by omega) (by omega)]; exact hv24_1))
            · have c28 : v24_3.toInt = r23.toInt := congrArg Int32.toInt c26
              refine lv_iload hx hb dX7_stepNamed_71 (lv_at hl 4 rfl) ?_
              exact u_iret C h hr hQ (⟨(iv_w i5 (by decide)), t_24, o_24, (by unfold stpn; rw [if_pos (by omega), ← hv24_1, ns_y (by omega) ⟨by omega, by omega⟩]; omega)⟩) (Nat.le_of_ble_eq_true rfl) (Nat.le_of_ble_eq_true rfl) dX7_stepNamed_73
  refine lv_iload_n hx hb dX7_stepNamed_0 rfl (lv_at hl 2 rfl) ?_
  refine lv_iload_n hx hb dX7_stepNamed_1 rfl (lv_at hl 1 rfl) ?_
  refine i_sub hx hb dX7_stepNamed_2 hu2 hu1 (lo := (-198)) (hi := 200) (by decide) (fun z30 ez30 mz30 iz30 => ?_)
  refine lv_iconst (v := 2) hx hb dX7_stepNamed_3 (by decide) ?_
  refine lv_icmp_ne (tgt := 18) hx hb dX7_stepNamed_4 (by decide) (fun c31 => ?_) (fun c31 => ?_)
  · have c32 : z30.toInt ≠ 2 := fun z_ => c31 (Int32.toInt_inj.mp z_)
    refine lv_bipush (v := 32) hx hb dX7_stepNamed_18 (by decide) ?_
    refine lv_istore_n (lv' := [(3, .int 32), (0, .ref u0), (1, .int u1), (2, .int u2)]) hx hb dX7_stepNamed_20 rfl hl (by decide) rfl (fun ls hl => ?_)
    refine lv_iconst (v := 0) hx hb dX7_stepNamed_21 (by decide) ?_
    refine lv_istore (lv' := [(4, .int 0), (3, .int 32), (0, .ref u0), (1, .int u1), (2, .int u2)]) hx hb dX7_stepNamed_22 hl (by decide) rfl (fun ls hl => ?_)
    exact L24 9 ls f s.heap [] 32 0 (by decide) (lv_cons hl 2 rfl (lv_cons hl 3 rfl (lv_cons hl 4 rfl (lv_cons hl 1 rfl (lv_cons hl 0 rfl (lv_nil hl)))))) h t o ⟨by decide, by decide⟩ ⟨by decide, by decide⟩ k_u0_1 hRtq (show 32 = (if u2.toInt.toNat = u1.toInt.toNat + 2 then tb rt (u1.toInt.toNat + 1) else 32) from (by rw [if_neg (by omega)])) (show ns (tb rt u1.toInt.toNat) (if u2.toInt.toNat = u1.toInt.toNat + 2 then tb rt (u1.toInt.toNat + 1) else 32) (8 - Int.toNat (0)) (Int.toNat (0)) = ns (tb rt u1.toInt.toNat) (if u2.toInt.toNat = u1.toInt.toNat + 2 then tb rt (u1.toInt.toNat + 1) else 32) 8 0 from rfl)
  · have c33 : z30.toInt = 2 := congrArg Int32.toInt c31
    have i34 : iv z30 2 2 := iv_Q c33 iz30 (iv_k (x := 2) (k := 2) rfl) (by decide)
    refine lv_aload_n hx hb dX7_stepNamed_7 rfl (lv_at hl 0 rfl) ?_
    refine t_getfd C h t hu0 (by decide) wf_11 (v := .ref tq) k_u0_1 fl_X7_11 dX7_stepNamed_8 ?_
    refine lv_iload_n hx hb dX7_stepNamed_11 rfl (lv_at hl 1 rfl) ?_
    refine lv_iconst (v := 1) hx hb dX7_stepNamed_12 (by decide) ?_
    refine i_addk hx hb dX7_stepNamed_13 hu1 (k := 1) rfl (lo := 1) (hi := 200) (by decide) (fun z35 ez35 mz35 iz35 => ?_)
    refine e_iald C h t htq (by decide) wf_13 hRtq (ix_o (by omega)) dX7_stepNamed_14 (fun z36 ez36 iz36 => ?_)
    have mz36 := congrArg Int32.toInt ez36
    refine lv_goto (tgt := 20) hx hb dX7_stepNamed_15 (by decide) ?_
    refine lv_istore_n (lv' := [(3, .int z36), (0, .ref u0), (1, .int u1), (2, .int u2)]) hx hb dX7_stepNamed_20 rfl hl (by decide) rfl (fun ls hl => ?_)
    refine lv_iconst (v := 0) hx hb dX7_stepNamed_21 (by decide) ?_
    refine lv_istore (lv' := [(4, .int 0), (3, .int z36), (0, .ref u0), (1, .int u1), (2, .int u2)]) hx hb dX7_stepNamed_22 hl (by decide) rfl (fun ls hl => ?_)
    exact L24 9 ls f s.heap [] z36 0 (by decide) (lv_cons hl 2 rfl (lv_cons hl 3 rfl (lv_cons hl 4 rfl (lv_cons hl 1 rfl (lv_cons hl 0 rfl (lv_nil hl)))))) h t o iz36 ⟨by decide, by decide⟩ k_u0_1 hRtq (show z36.toInt = (if u2.toInt.toNat = u1.toInt.toNat + 2 then tb rt (u1.toInt.toNat + 1) else 32) from (by rw [if_pos (by omega), mz36]; exact congrArg (tb rt) (by omega))) (show ns (tb rt u1.toInt.toNat) (if u2.toInt.toNat = u1.toInt.toNat + 2 then tb rt (u1.toInt.toNat + 1) else 32) (8 - Int.toNat (0)) (Int.toNat (0)) = ns (tb rt u1.toInt.toNat) (if u2.toInt.toNat = u1.toInt.toNat + 2 then tb rt (u1.toInt.toNat + 1) else 32) 8 0 from rfl)
abbrev rm_s_X7_takesFromX : Room := { frames := 0, cells := 0, slots := 0, locals := 0 }
set_option maxRecDepth 100000 in
set_option maxHeartbeats 4000000 in
theorem s_X7_takesFromX (l : Launch) (D : va_G) (G : Nat → Nat) (b0 : Nat) (τ : Nat → Nat) (f : hM) (t : TI G 9 τ f) (u0 : Nat) (hu0 : τ u0 = 11) (u1 : Int32) (hu1 : iv u1 0 199) (u2 : Int32) (hu2 : iv u2 1 200) (tq : Nat) (htq : τ tq = 13) (k_u0_1 : atp f u0 (fd 1 (.ref tq))) (bh : Int32) (hbh : iv bh 0 6) (k_u0_5 : atp f u0 (fd 5 (.int bh))) (rt : Nat → Int32) (hRtq : atp f tq (eqc (.inl (G 1, 200, .inl rt)))) (hr0 : u1.toInt < u2.toInt) : mI l yX7_takesFrom cX7_takesFrom 3 (.boolean) rm_s_X7_takesFromX D G b0 f [.ref u0, .int u1, .int u2] (fun r f1 => iv r 0 1 ∧ TI G 9 τ f1 ∧ Fr [11, 11006] τ f f1 ∧ (r.toInt ≠ 0 → (okF (tb rt) u1.toInt.toNat u2.toInt.toNat)) ∧ (r.toInt = 0 → (¬ okF (tb rt) u1.toInt.toNat u2.toInt.toNat)) ∧ (∃ bh1 : Int32, atp f1 u0 (fd 5 (.int bh1)) ∧ iv bh1 0 6 ∧ (okF (tb rt) u1.toInt.toNat u2.toInt.toNat → bh1.toInt = 4) ∧ (¬ okF (tb rt) u1.toInt.toNat u2.toInt.toNat → bh1.toInt = bh.toInt)) ∧ FX [u0] f f1) := by
  refine met2 (own := RX7) (by decide) rfl (Nat.le_of_ble_eq_true rfl) ?_
  intro p e s m args below meth c ls Q hQ C hr hini hl h
  have hl : lv_has ls 3 [(0, .ref u0), (1, .int u1), (2, .int u2)] := hl
  obtain ⟨hx, hb, hml, hown, hts, hE0, hlk⟩ := id C
  have o := Fr.rf [11, 11006] τ f
  have hfx := FX.rf [u0] f
  refine lv_iload_n hx hb dX7_takesFrom_0 rfl (lv_at hl 2 rfl) ?_
  refine lv_iload_n hx hb dX7_takesFrom_1 rfl (lv_at hl 1 rfl) ?_
  refine i_sub hx hb dX7_takesFrom_2 hu2 hu1 (lo := (-198)) (hi := 200) (by decide) (fun z1 ez1 mz1 iz1 => ?_)
  refine lv_iconst (v := 4) hx hb dX7_takesFrom_3 (by decide) ?_
  refine lv_icmp_ne (tgt := 57) hx hb dX7_takesFrom_4 (by decide) (fun c2 => ?_) (fun c2 => ?_)
  · have c3 : z1.toInt ≠ 4 := fun z_ => c2 (Int32.toInt_inj.mp z_)
    refine lv_iconst (v := 0) hx hb dX7_takesFrom_57 (by decide) ?_
    exact u_zret C h hr hQ ⟨by decide, by decide⟩ (⟨⟨by decide, by decide⟩, t, o, (fun h_ => absurd h_ (by decide)), (fun _ => (fun z_ => by have h1_ := z_.1; have h2_ := z_.2.1; have h3_ := z_.2.2.1; have h4_ := z_.2.2.2.1; have h5_ := z_.2.2.2.2; omega)), ⟨bh, k_u0_5, hbh, ⟨fun z_ => by have h1_ := z_.1; have h2_ := z_.2.1; have h3_ := z_.2.2.1; have h4_ := z_.2.2.2.1; have h5_ := z_.2.2.2.2; omega, fun _ => rfl⟩⟩, hfx⟩) (Nat.le_of_ble_eq_true rfl) (Nat.le_of_ble_eq_true rfl) dX7_takesFrom_58
  · have c4 : z1.toInt = 4 := congrArg Int32.toInt c2
    have i5 : iv z1 4 4 := iv_Q c4 iz1 (iv_k (x := 4) (k := 4) rfl) (by decide)
    refine lv_aload_n hx hb dX7_takesFrom_7 rfl (lv_at hl 0 rfl) ?_
    refine t_getfd C h t hu0 (by decide) wf_11 (v := .ref tq) k_u0_1 fl_X7_11 dX7_takesFrom_8 ?_
    refine lv_iload_n hx hb dX7_takesFrom_11 rfl (lv_at hl 1 rfl) ?_
    refine e_iald C h t htq (by decide) wf_13 hRtq (iv_in hu1 (by decide)) dX7_takesFrom_12 (fun z6 ez6 iz6 => ?_)
    have mz6 := congrArg Int32.toInt ez6
    have qz6 : tb rt u1.toInt.toNat = z6.toInt := mz6.symm
    refine lv_bipush (v := 102) hx hb dX7_takesFrom_13 (by decide) ?_
    refine lv_icmp_ne (tgt := 57) hx hb dX7_takesFrom_15 (by decide) (fun c7 => ?_) (fun c7 => ?_)
    · have c8 : z6.toInt ≠ 102 := fun z_ => c7 (Int32.toInt_inj.mp z_)
      refine lv_iconst (v := 0) hx hb dX7_takesFrom_57 (by decide) ?_
      exact u_zret C h hr hQ ⟨by decide, by decide⟩ (⟨⟨by decide, by decide⟩, t, o, (fun h_ => absurd h_ (by decide)), (fun _ => (fun z_ => by have h1_ := z_.1; have h2_ := z_.2.1; have h3_ := z_.2.2.1; have h4_ := z_.2.2.2.1; have h5_ := z_.2.2.2.2; omega)), ⟨bh, k_u0_5, hbh, ⟨fun z_ => by have h1_ := z_.1; have h2_ := z_.2.1; have h3_ := z_.2.2.1; have h4_ := z_.2.2.2.1; have h5_ := z_.2.2.2.2; omega, fun _ => rfl⟩⟩, hfx⟩) (Nat.le_of_ble_eq_true rfl) (Nat.le_of_ble_eq_true rfl) dX7_takesFrom_58
    · have c9 : z6.toInt = 102 := congrArg Int32.toInt c7
      have i10 : iv z6 102 102 := iv_Q c9 iz6 (iv_k (x := 102) (k := 102) rfl) (by decide)
      refine lv_aload_n hx hb dX7_takesFrom_18 rfl (lv_at hl 0 rfl) ?_
      refine t_getfd C h t hu0 (by decide) wf_11 (v := .ref tq) k_u0_1 fl_X7_11 dX7_takesFrom_19 ?_
      refine lv_iload_n hx hb dX7_takesFrom_22 rfl (lv_at hl 1 rfl) ?_
      refine lv_iconst (v := 1) hx hb dX7_takesFrom_23 (by decide) ?_
      refine i_addk hx hb dX7_takesFrom_24 hu1 (k := 1) rfl (lo := 1) (hi := 200) (by decide) (fun z11 ez11 mz11 iz11 => ?_)
      refine e_iald C h t htq (by decide) wf_13 hRtq (ix_o (by omega)) dX7_takesFrom_25 (fun z12 ez12 iz12 => ?_)
      have mz12 := congrArg Int32.toInt ez12
      have qz12 : tb rt (u1.toInt.toNat + 1) = z12.toInt := by rw [mz12]; exact congrArg (tb rt) (by omega)
      refine lv_bipush (v := 114) hx hb dX7_takesFrom_26 (by decide) ?_
      refine lv_icmp_ne (tgt := 57) hx hb dX7_takesFrom_28 (by decide) (fun c13 => ?_) (fun c13 => ?_)
      · have c14 : z12.toInt ≠ 114 := fun z_ => c13 (Int32.toInt_inj.mp z_)
        refine lv_iconst (v := 0) hx hb dX7_takesFrom_57 (by decide) ?_
        exact u_zret C h hr hQ ⟨by decide, by decide⟩ (⟨⟨by decide, by decide⟩, t, o, (fun h_ => absurd h_ (by decide)), (fun _ => (fun z_ => by have h1_ := z_.1; have h2_ := z_.2.1; have h3_ := z_.2.2.1; have h4_ := z_.2.2.2.1; have h5_ := z_.2.2.2.2; omega)), ⟨bh, k_u0_5, hbh, ⟨fun z_ => by have h1_ := z_.1; have h2_ := z_.2.1; have h3_ := z_.2.2.1; have h4_ := z_.2.2.2.1; have h5_ := z_.2.2.2.2; omega, fun _ => rfl⟩⟩, hfx⟩) (Nat.le_of_ble_eq_true rfl) (Nat.le_of_ble_eq_true rfl) dX7_takesFrom_58
      · have c15 : z12.toInt = 114 := congrArg Int32.toInt c13
        have i16 : iv z12 114 114 := iv_Q c15 iz12 (iv_k (x := 114) (k := 114) rfl) (by decide)
        refine lv_aload_n hx hb dX7_takesFrom_31 rfl (lv_at hl 0 rfl) ?_
        refine t_getfd C h t hu0 (by decide) wf_11 (v := .ref tq) k_u0_1 fl_X7_11 dX7_takesFrom_32 ?_
        refine lv_iload_n hx hb dX7_takesFrom_35 rfl (lv_at hl 1 rfl) ?_
        refine lv_iconst (v := 2) hx hb dX7_takesFrom_36 (by decide) ?_
        refine i_addk hx hb dX7_takesFrom_37 hu1 (k := 2) rfl (lo := 2) (hi := 201) (by decide) (fun z17 ez17 mz17 iz17 => ?_)
        refine e_iald C h t htq (by decide) wf_13 hRtq (ix_o (by omega)) dX7_takesFrom_38 (fun z18 ez18 iz18 => ?_)
        have mz18 := congrArg Int32.toInt ez18
        have qz18 : tb rt (u1.toInt.toNat + 2) = z18.toInt := by rw [mz18]; exact congrArg (tb rt) (by omega)
        refine lv_bipush (v := 111) hx hb dX7_takesFrom_39 (by decide) ?_
        refine lv_icmp_ne (tgt := 57) hx hb dX7_takesFrom_41 (by decide) (fun c19 => ?_) (fun c19 => ?_)
        · have c20 : z18.toInt ≠ 111 := fun z_ => c19 (Int32.toInt_inj.mp z_)
          refine lv_iconst (v := 0) hx hb dX7_takesFrom_57 (by decide) ?_
          exact u_zret C h hr hQ ⟨by decide, by decide⟩ (⟨⟨by decide, by decide⟩, t, o, (fun h_ => absurd h_ (by decide)), (fun _ => (fun z_ => by have h1_ := z_.1; have h2_ := z_.2.1; have h3_ := z_.2.2.1; have h4_ := z_.2.2.2.1; have h5_ := z_.2.2.2.2; omega)), ⟨bh, k_u0_5, hbh, ⟨fun z_ => by have h1_ := z_.1; have h2_ := z_.2.1; have h3_ := z_.2.2.1; have h4_ := z_.2.2.2.1; have h5_ := z_.2.2.2.2; omega, fun _ => rfl⟩⟩, hfx⟩) (Nat.le_of_ble_eq_true rfl) (Nat.le_of_ble_eq_true rfl) dX7_takesFrom_58
        · have c21 : z18.toInt = 111 := congrArg Int32.toInt c19
          have i22 : iv z18 111 111 := iv_Q c21 iz18 (iv_k (x := 111) (k := 111) rfl) (by decide)
          refine lv_aload_n hx hb dX7_takesFrom_44 rfl (lv_at hl 0 rfl) ?_
          refine t_getfd C h t hu0 (by decide) wf_11 (v := .ref tq) k_u0_1 fl_X7_11 dX7_takesFrom_45 ?_
          refine lv_iload_n hx hb dX7_takesFrom_48 rfl (lv_at hl 1 rfl) ?_
          refine lv_iconst (v := 3) hx hb dX7_takesFrom_49 (by decide) ?_
          refine i_addk hx hb dX7_takesFrom_50 hu1 (k := 3) rfl (lo := 3) (hi := 202) (by decide) (fun z23 ez23 mz23 iz23 => ?_)
          refine e_iald C h t htq (by decide) wf_13 hRtq (ix_o (by omega)) dX7_takesFrom_51 (fun z24 ez24 iz24 => ?_)
          have mz24 := congrArg Int32.toInt ez24
          have qz24 : tb rt (u1.toInt.toNat + 3) = z24.toInt := by rw [mz24]; exact congrArg (tb rt) (by omega)
          refine lv_bipush (v := 109) hx hb dX7_takesFrom_52 (by decide) ?_
          refine lv_icmp_eq (tgt := 59) hx hb dX7_takesFrom_54 (by decide) (fun c25 => ?_) (fun c25 => ?_)
          · have c26 : z24.toInt = 109 := congrArg Int32.toInt c25
            have i27 : iv z24 109 109 := iv_Q c26 iz24 (iv_k (x := 109) (k := 109) rfl) (by decide)
            refine lv_aload_n hx hb dX7_takesFrom_59 rfl (lv_at hl 0 rfl) ?_
            refine lv_iconst (v := 4) hx hb dX7_takesFrom_60 (by decide) ?_
            refine t_put C h t o hu0 (by decide) (by decide) (by decide) wf_11 fw_11 (k := 5) rfl flw_X7_39 (Or.inr ⟨_, _, _, rfl, rfl⟩) (v := .int 4) rfl rfl ⟨_, rfl, ⟨by decide, by decide⟩⟩ dX7_takesFrom_61 (fun f29 H locs h tf29 of29 hq ha_ hn_ hk_ => ?_)
            have k30 := hk_ 1 _ (by decide) k_u0_1
            have k32 := atp.tg hRtq hq htq (by decide)
            have k33 := FX.up hfx hn_ (by simp)
            have k34 := ha_
            refine lv_iconst (v := 1) hx hb dX7_takesFrom_64 (by decide) ?_
            exact u_zret C h hr hQ ⟨by decide, by decide⟩ (⟨⟨by decide, by decide⟩, tf29, of29, (fun _ => ⟨by omega, by omega, by omega, by omega, by omega⟩), (fun h_ => absurd h_ (by decide)), ⟨4, k34, ⟨by decide, by decide⟩, ⟨fun _ => rfl, fun z_ => absurd (⟨by omega, by omega, by omega, by omega, by omega⟩ : okF (tb rt) u1.toInt.toNat u2.toInt.toNat) z_⟩⟩, k33⟩) (Nat.le_of_ble_eq_true rfl) (Nat.le_of_ble_eq_true rfl) dX7_takesFrom_65
          · have c28 : z24.toInt ≠ 109 := fun z_ => c25 (Int32.toInt_inj.mp z_)
            refine lv_iconst (v := 0) hx hb dX7_takesFrom_57 (by decide) ?_
            exact u_zret C h hr hQ ⟨by decide, by decide⟩ (⟨⟨by decide, by decide⟩, t, o, (fun h_ => absurd h_ (by decide)), (fun _ => (fun z_ => by have h1_ := z_.1; have h2_ := z_.2.1; have h3_ := z_.2.2.1; have h4_ := z_.2.2.2.1; have h5_ := z_.2.2.2.2; omega)), ⟨bh, k_u0_5, hbh, ⟨fun z_ => by have h1_ := z_.1; have h2_ := z_.2.1; have h3_ := z_.2.2.1; have h4_ := z_.2.2.2.1; have h5_ := z_.2.2.2.2; omega, fun _ => rfl⟩⟩, hfx⟩) (Nat.le_of_ble_eq_true rfl) (Nat.le_of_ble_eq_true rfl) dX7_takesFrom_58
abbrev rm_s_X7_takesStepX : Room := { frames := 5, cells := 0, slots := 0, locals := 109 }
set_option maxRecDepth 100000 in
set_option maxHeartbeats 4000000 in
theorem s_X7_takesStepX (l : Launch) (D : va_G) (G : Nat → Nat) (b0 : Nat) (τ : Nat → Nat) (f : hM) (t : TI G 9 τ f) (u0 : Nat) (hu0 : τ u0 = 11) (u1 : Int32) (hu1 : iv u1 0 199) (u2 : Int32) (hu2 : iv u2 1 200) (tq : Nat) (htq : τ tq = 13) (k_u0_1 : atp f u0 (fd 1 (.ref tq))) (wq : Nat) (hwq : τ wq = 14) (k_u0_2 : atp f u0 (fd 2 (.ref wq))) (bh : Int32) (hbh : iv bh 0 6) (k_u0_5 : atp f u0 (fd 5 (.int bh))) (la : Int32) (hla : iv la 0 7) (k_u0_6 : atp f u0 (fd 6 (.int la))) (rt : Nat → Int32) (hRtq : atp f tq (eqc (.inl (G 1, 200, .inl rt)))) (ww : Nat → Int32) (hRwq : atp f wq (eqc (.inl (G 1, 8, .inl ww)))) (hr0 : u1.toInt < u2.toInt) : mI l yX7_takesStep cX7_takesStep 4 (.boolean) rm_s_X7_takesStepX D G b0 f [.ref u0, .int u1, .int u2] (fun r f1 => iv r 0 1 ∧ TI G 9 τ f1 ∧ Fr [11, 14, 11006, 11007] τ f f1 ∧ (r.toInt ≠ 0 → (okS (tb rt) u1.toInt.toNat u2.toInt.toNat bh.toInt (tb ww))) ∧ (r.toInt = 0 → (¬ okS (tb rt) u1.toInt.toNat u2.toInt.toNat bh.toInt (tb ww))) ∧ (∃ bh1 : Int32, atp f1 u0 (fd 5 (.int bh1)) ∧ iv bh1 0 6 ∧ (okS (tb rt) u1.toInt.toNat u2.toInt.toNat bh.toInt (tb ww) → bh1.toInt = 1) ∧ (¬ okS (tb rt) u1.toInt.toNat u2.toInt.toNat bh.toInt (tb ww) → bh1.toInt = bh.toInt)) ∧ (∃ la1 : Int32, atp f1 u0 (fd 6 (.int la1)) ∧ iv la1 0 7 ∧ (okS (tb rt) u1.toInt.toNat u2.toInt.toNat bh.toInt (tb ww) → la1.toInt = stpn (tb rt) u1.toInt.toNat u2.toInt.toNat) ∧ (¬ okS (tb rt) u1.toInt.toNat u2.toInt.toNat bh.toInt (tb ww) → la1.toInt = la.toInt)) ∧ (∃ ww1 : Nat → Int32, atp f1 wq (eqc (.inl (G 1, 8, .inl ww1))) ∧ (∀ k : Nat, ww1 k = if okS (tb rt) u1.toInt.toNat u2.toInt.toNat bh.toInt (tb ww) ∧ k = (stpn (tb rt) u1.toInt.toNat u2.toInt.toNat).toNat then 1 else ww k)) ∧ FX [u0, wq] f f1) := by
  refine met2 (own := RX7) (by decide) rfl (Nat.le_of_ble_eq_true rfl) ?_
  intro p e s m args below meth c ls Q hQ C hr hini hl h
  have hl : lv_has ls 4 [(0, .ref u0), (1, .int u1), (2, .int u2)] := hl
  obtain ⟨hx, hb, hml, hown, hts, hE0, hlk⟩ := id C
  have o := Fr.rf [11, 14, 11006, 11007] τ f
  have hfx := FX.rf [u0, wq] f
  refine lv_aload_n hx hb dX7_takesStep_0 rfl (lv_at hl 0 rfl) ?_
  refine lv_iload_n hx hb dX7_takesStep_1 rfl (lv_at hl 1 rfl) ?_
  refine lv_iload_n hx hb dX7_takesStep_2 rfl (lv_at hl 2 rfl) ?_
  obtain ⟨_, r1⟩ := t_rec t hu0 (by decide) wf_11
  refine k_i (r_V C h hl (As := [.int u1, .int u2]) (rest := []) (s_X7_stepNamedX l D G b0 τ f t u0 hu0 u1 hu1 u2 hu2 tq htq k_u0_1 rt hRtq (by omega)) r1 (Cn := RX7) (T := TX7) (N := 7) rfl rfl mk_X7_stepNamed w_467 w_469 w_6 w_470 ⟨Nat.le_of_ble_eq_true rfl, Nat.le_of_ble_eq_true rfl⟩ rfl (Nat.le_of_ble_eq_true rfl) ⟨Nat.le_of_ble_eq_true rfl, Nat.le_of_ble_eq_true rfl⟩ rfl dX7_takesStep_3) h (fun r2 f3 H locs p4 h => ?_)
  obtain ⟨ir2, tf3, ogf3, x0r2⟩ := p4
  have egf3 := Fr.nil2 ogf3
  subst egf3
  refine lv_istore_n (lv' := [(3, .int r2), (0, .ref u0), (1, .int u1), (2, .int u2)]) hx hb dX7_takesStep_6 rfl hl (by decide) rfl (fun ls hl => ?_)
  refine lv_aload_n hx hb dX7_takesStep_7 rfl (lv_at hl 1 rfl) ?_
  refine t_getfd C h t hu0 (by decide) wf_11 (v := .int bh) k_u0_5 fl_X7_39 dX7_takesStep_8 ?_
  refine lv_iconst (v := 2) hx hb dX7_takesStep_11 (by decide) ?_
  refine lv_icmp_gt (tgt := 29) hx hb dX7_takesStep_12 (by decide) (fun c5 => ?_) (fun c5 => ?_)
  · have c6 : 2 < bh.toInt := Int32.lt_iff_toInt_lt.mp c5
    have i7 : iv bh 3 6 := iv_Lr c6 (iv_k (x := 2) (k := 2) rfl) hbh (by decide)
    refine lv_iconst (v := 0) hx hb dX7_takesStep_29 (by decide) ?_
    exact u_zret C h hr hQ ⟨by decide, by decide⟩ (⟨⟨by decide, by decide⟩, t, o, (fun h_ => absurd h_ (by decide)), (fun _ => (fun z_ => by have h1_ := z_.1; have h2_ := z_.2.1; have h3_ := z_.2.2; omega)), ⟨bh, k_u0_5, (iv_w i7 (by decide)), ⟨fun z_ => absurd z_ (fun z_ => by have h1_ := z_.1; have h2_ := z_.2.1; have h3_ := z_.2.2; omega), fun _ => rfl⟩⟩, ⟨la, k_u0_6, hla, ⟨fun z_ => absurd z_ (fun z_ => by have h1_ := z_.1; have h2_ := z_.2.1; have h3_ := z_.2.2; omega), fun _ => rfl⟩⟩, ⟨ww, hRwq, (fun k => by rw [if_neg (fun z_ => (fun z_ => by have h1_ := z_.1; have h2_ := z_.2.1; have h3_ := z_.2.2; omega) z_.1)])⟩, hfx⟩) (Nat.le_of_ble_eq_true rfl) (Nat.le_of_ble_eq_true rfl) dX7_takesStep_30
  · have c8 : bh.toInt ≤ 2 := Int32.le_iff_toInt_le.mp (iv_nlt c5)
    have i9 : iv bh 0 2 := iv_El c8 hbh (iv_k (x := 2) (k := 2) rfl) (by decide)
    refine lv_iload_n hx hb dX7_takesStep_15 rfl (lv_at hl 0 rfl) ?_
    refine lv_iconst (v := -1) hx hb dX7_takesStep_16 (by decide) ?_
    refine lv_icmp_eq (tgt := 29) hx hb dX7_takesStep_17 (by decide) (fun c10 => ?_) (fun c10 => ?_)
    · have c11 : r2.toInt = (-1) := congrArg Int32.toInt c10
      have i12 : iv r2 (-1) (-1) := iv_Q c11 ir2 (iv_k (x := (-1)) (k := (-1)) rfl) (by decide)
      refine lv_iconst (v := 0) hx hb dX7_takesStep_29 (by decide) ?_
      exact u_zret C h hr hQ ⟨by decide, by decide⟩ (⟨⟨by decide, by decide⟩, t, o, (fun h_ => absurd h_ (by decide)), (fun _ => (fun z_ => by have h1_ := z_.1; have h2_ := z_.2.1; have h3_ := z_.2.2; omega)), ⟨bh, k_u0_5, (iv_w i9 (by decide)), ⟨fun z_ => absurd z_ (fun z_ => by have h1_ := z_.1; have h2_ := z_.2.1; have h3_ := z_.2.2; omega), fun _ => rfl⟩⟩, ⟨la, k_u0_6, hla, ⟨fun z_ => absurd z_ (fun z_ => by have h1_ := z_.1; have h2_ := z_.2.1; have h3_ := z_.2.2; omega), fun _ => rfl⟩⟩, ⟨ww, hRwq, (fun k => by rw [if_neg (fun z_ => (fun z_ => by have h1_ := z_.1; have h2_ := z_.2.1; have h3_ := z_.2.2; omega) z_.1)])⟩, hfx⟩) (Nat.le_of_ble_eq_true rfl) (Nat.le_of_ble_eq_true rfl) dX7_takesStep_30
    · have c13 : r2.toInt ≠ (-1) := fun z_ => c10 (Int32.toInt_inj.mp z_)
      have i14 : iv r2 0 7 := iv_Nl c13 ir2 (by decide)
      refine lv_aload_n hx hb dX7_takesStep_20 rfl (lv_at hl 1 rfl) ?_
      refine t_getfd C h t hu0 (by decide) wf_11 (v := .ref wq) k_u0_2 fl_X7_15 dX7_takesStep_21 ?_
      refine lv_iload_n hx hb dX7_takesStep_24 rfl (lv_at hl 0 rfl) ?_
      refine e_iald C h t hwq (by decide) wf_14 hRwq (iv_in i14 (by decide)) dX7_takesStep_25 (fun z15 ez15 iz15 => ?_)
      have mz15 := congrArg Int32.toInt ez15
      have qz15 : tb ww (stpn (tb rt) u1.toInt.toNat u2.toInt.toNat).toNat = z15.toInt := by rw [mz15, x0r2]; rfl
      refine lv_if_eq (tgt := 31) hx hb dX7_takesStep_26 (by decide) (fun c16 => ?_) (fun c16 => ?_)
      · have c17 : z15.toInt = 0 := congrArg Int32.toInt c16
        have i18 : iv z15 0 0 := iv_Q c17 iz15 (iv_k (x := 0) (k := 0) rfl) (by decide)
        refine lv_aload_n hx hb dX7_takesStep_31 rfl (lv_at hl 1 rfl) ?_
        refine t_getfd C h t hu0 (by decide) wf_11 (v := .ref wq) k_u0_2 fl_X7_15 dX7_takesStep_32 ?_
        refine lv_iload_n hx hb dX7_takesStep_35 rfl (lv_at hl 0 rfl) ?_
        refine lv_iconst (v := 1) hx hb dX7_takesStep_36 (by decide) ?_
        refine e_iast C h t o hwq (by decide) (by decide) wf_14 fw_14 hRwq (iv_in i14 (by decide)) ⟨by decide, by decide⟩ dX7_takesStep_37 (fun R23 f21 erR23 H locs h tf21 of21 hq hn_ k22 => ?_)
        have k24 := atp.tg k_u0_1 hq hu0 (by decide)
        have k25 := atp.tg k_u0_2 hq hu0 (by decide)
        have k26 := atp.tg k_u0_5 hq hu0 (by decide)
        have k27 := atp.tg k_u0_6 hq hu0 (by decide)
        have k28 := atp.tg hRtq hq htq (by decide)
        have k30 := FX.up hfx hn_ (by simp)
        refine lv_aload_n hx hb dX7_takesStep_38 rfl (lv_at hl 1 rfl) ?_
        refine lv_iload_n hx hb dX7_takesStep_39 rfl (lv_at hl 0 rfl) ?_
        refine t_put C h tf21 of21 hu0 (by decide) (by decide) (by decide) wf_11 fw_11 (k := 6) rfl flw_X7_42 (Or.inr ⟨_, _, _, rfl, rfl⟩) (v := .int r2) rfl rfl ⟨_, rfl, i14⟩ dX7_takesStep_40 (fun f31 H locs h tf31 of31 hq ha_ hn_ hk_ => ?_)
        have k32 := hk_ 1 _ (by decide) k24
        have k33 := hk_ 2 _ (by decide) k25
        have k34 := hk_ 5 _ (by decide) k26
        have k36 := atp.tg k28 hq htq (by decide)
        have k37 := FX.up k30 hn_ (by simp)
        have k38 := atp.tg k22 hq hwq (by decide)
        have k39 := ha_
        refine lv_aload_n hx hb dX7_takesStep_43 rfl (lv_at hl 1 rfl) ?_
        refine lv_iconst (v := 1) hx hb dX7_takesStep_44 (by decide) ?_
        refine t_put C h tf31 of31 hu0 (by decide) (by decide) (by decide) wf_11 fw_11 (k := 5) rfl flw_X7_39 (Or.inr ⟨_, _, _, rfl, rfl⟩) (v := .int 1) rfl rfl ⟨_, rfl, ⟨by decide, by decide⟩⟩ dX7_takesStep_45 (fun f40 H locs h tf40 of40 hq ha_ hn_ hk_ => ?_)
        have k41 := hk_ 1 _ (by decide) k32
        have k42 := hk_ 2 _ (by decide) k33
        have k44 := atp.tg k36 hq htq (by decide)
        have k45 := FX.up k37 hn_ (by simp)
        have k46 := atp.tg k38 hq hwq (by decide)
        have k47 := hk_ 6 _ (by decide) k39
        have k48 := ha_
        refine lv_iconst (v := 1) hx hb dX7_takesStep_48 (by decide) ?_
        exact u_zret C h hr hQ ⟨by decide, by decide⟩ (⟨⟨by decide, by decide⟩, tf40, of40, (fun _ => ⟨by omega, by omega, by omega⟩), (fun h_ => absurd h_ (by decide)), ⟨1, k48, ⟨by decide, by decide⟩, ⟨fun _ => rfl, fun z_ => absurd (⟨by omega, by omega, by omega⟩ : okS (tb rt) u1.toInt.toNat u2.toInt.toNat bh.toInt (tb ww)) z_⟩⟩, ⟨r2, k47, i14, ⟨fun _ => (by omega), fun z_ => absurd (⟨by omega, by omega, by omega⟩ : okS (tb rt) u1.toInt.toNat u2.toInt.toNat bh.toInt (tb ww)) z_⟩⟩, ⟨R23, k46, (fun k => by
            rw [erR23]; by_cases q_ : k = r2.toInt.toNat
            · rw [upd_at q_, if_pos ⟨⟨by omega, by omega, by omega⟩, by omega⟩]
            · rw [upd_off q_, if_neg (fun z_ => q_ (by have := z_.2; omega))])⟩, k45⟩) (Nat.le_of_ble_eq_true rfl) (Nat.le_of_ble_eq_true rfl) dX7_takesStep_49
      · have c19 : z15.toInt ≠ 0 := fun z_ => c16 (Int32.toInt_inj.mp z_)
        have i20 : iv z15 1 9 := iv_Nl c19 iz15 (by decide)
        refine lv_iconst (v := 0) hx hb dX7_takesStep_29 (by decide) ?_
        exact u_zret C h hr hQ ⟨by decide, by decide⟩ (⟨⟨by decide, by decide⟩, t, o, (fun h_ => absurd h_ (by decide)), (fun _ => (fun z_ => by have h1_ := z_.1; have h2_ := z_.2.1; have h3_ := z_.2.2; omega)), ⟨bh, k_u0_5, (iv_w i9 (by decide)), ⟨fun z_ => absurd z_ (fun z_ => by have h1_ := z_.1; have h2_ := z_.2.1; have h3_ := z_.2.2; omega), fun _ => rfl⟩⟩, ⟨la, k_u0_6, hla, ⟨fun z_ => absurd z_ (fun z_ => by have h1_ := z_.1; have h2_ := z_.2.1; have h3_ := z_.2.2; omega), fun _ => rfl⟩⟩, ⟨ww, hRwq, (fun k => by rw [if_neg (fun z_ => (fun z_ => by have h1_ := z_.1; have h2_ := z_.2.1; have h3_ := z_.2.2; omega) z_.1)])⟩, hfx⟩) (Nat.le_of_ble_eq_true rfl) (Nat.le_of_ble_eq_true rfl) dX7_takesStep_30
