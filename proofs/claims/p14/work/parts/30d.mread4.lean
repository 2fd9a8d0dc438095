theorem dX11_reads_0 : decode cX11_reads 0 = .ok (.aload_n 0, 1) := by decide +kernel
theorem dX11_reads_1 : decode cX11_reads 1 = .ok (.iconst 0, 1) := by decide +kernel
theorem dX11_reads_2 : decode cX11_reads 2 = .ok (.putfield 90, 3) := by decide +kernel
theorem dX11_reads_5 : decode cX11_reads 5 = .ok (.aload_n 0, 1) := by decide +kernel
theorem dX11_reads_6 : decode cX11_reads 6 = .ok (.iconst (-1), 1) := by decide +kernel
theorem dX11_reads_7 : decode cX11_reads 7 = .ok (.putfield 97, 3) := by decide +kernel
theorem dX11_reads_10 : decode cX11_reads 10 = .ok (.iconst 0, 1) := by decide +kernel
theorem dX11_reads_11 : decode cX11_reads 11 = .ok (.istore_n 1, 1) := by decide +kernel
theorem dX11_reads_12 : decode cX11_reads 12 = .ok (.iload_n 1, 1) := by decide +kernel
theorem dX11_reads_13 : decode cX11_reads 13 = .ok (.bipush 10, 2) := by decide +kernel
theorem dX11_reads_15 : decode cX11_reads 15 = .ok (.if_icmp .ge 16, 3) := by decide +kernel
theorem dX11_reads_18 : decode cX11_reads 18 = .ok (.aload_n 0, 1) := by decide +kernel
theorem dX11_reads_19 : decode cX11_reads 19 = .ok (.getfield 13, 3) := by decide +kernel
theorem dX11_reads_22 : decode cX11_reads 22 = .ok (.iload_n 1, 1) := by decide +kernel
theorem dX11_reads_23 : decode cX11_reads 23 = .ok (.iconst 0, 1) := by decide +kernel
theorem dX11_reads_24 : decode cX11_reads 24 = .ok (.iastore, 1) := by decide +kernel
theorem dX11_reads_25 : decode cX11_reads 25 = .ok (.iinc 1 1, 3) := by decide +kernel
theorem dX11_reads_28 : decode cX11_reads 28 = .ok (.goto (-16), 3) := by decide +kernel
theorem dX11_reads_31 : decode cX11_reads 31 = .ok (.aload_n 0, 1) := by decide +kernel
theorem dX11_reads_32 : decode cX11_reads 32 = .ok (.invokevirtual 146, 3) := by decide +kernel
theorem w_1553 : Cond.methodLink "QuarterWalksModel" 146 yX11_readsStep ∈ wAll := wI7 18 (by decide +kernel) (by decide +kernel)
theorem w_39 : Cond.selects yX11_readsStep.cls yX11_readsStep yX11_readsStep ∈ wAll := wIn 39 (by decide +kernel) (by decide +kernel)
theorem mk_X11_readsStep : mk yX11_readsStep 0 := ⟨by decide +kernel, w_110⟩
theorem w_1555 : Cond.instanceMethod yX11_readsStep ∈ wAll := wI7 20 (by decide +kernel) (by decide +kernel)
theorem w_1556 : Cond.code yX11_readsStep cX11_readsStep 4 none ∈ wAll := wI7 21 (by decide +kernel) (by decide +kernel)
theorem dX11_reads_35 : decode cX11_reads 35 = .ok (.aload_n 0, 1) := by decide +kernel
theorem dX11_reads_36 : decode cX11_reads 36 = .ok (.getfield 97, 3) := by decide +kernel
theorem dX11_reads_39 : decode cX11_reads 39 = .ok (.iconst (-1), 1) := by decide +kernel
theorem dX11_reads_40 : decode cX11_reads 40 = .ok (.if_icmp .ne 20, 3) := by decide +kernel
theorem dX11_reads_60 : decode cX11_reads 60 = .ok (.aload_n 0, 1) := by decide +kernel
theorem dX11_reads_61 : decode cX11_reads 61 = .ok (.getfield 97, 3) := by decide +kernel
theorem dX11_reads_64 : decode cX11_reads 64 = .ok (.iconst (-1), 1) := by decide +kernel
theorem dX11_reads_65 : decode cX11_reads 65 = .ok (.if_icmp .ne 16, 3) := by decide +kernel
theorem dX11_reads_81 : decode cX11_reads 81 = .ok (.aload_n 0, 1) := by decide +kernel
theorem dX11_reads_82 : decode cX11_reads 82 = .ok (.getfield 97, 3) := by decide +kernel
theorem dX11_reads_85 : decode cX11_reads 85 = .ok (.iconst (-1), 1) := by decide +kernel
theorem dX11_reads_86 : decode cX11_reads 86 = .ok (.if_icmp .ne 19, 3) := by decide +kernel
theorem dX11_reads_105 : decode cX11_reads 105 = .ok (.aload_n 0, 1) := by decide +kernel
theorem dX11_reads_106 : decode cX11_reads 106 = .ok (.getfield 97, 3) := by decide +kernel
theorem dX11_reads_43 : decode cX11_reads 43 = .ok (.aload_n 0, 1) := by decide +kernel
theorem dX11_reads_44 : decode cX11_reads 44 = .ok (.invokevirtual 100, 3) := by decide +kernel
theorem dX11_reads_47 : decode cX11_reads 47 = .ok (.iconst (-1), 1) := by decide +kernel
theorem dX11_reads_48 : decode cX11_reads 48 = .ok (.if_icmp .eq 12, 3) := by decide +kernel
theorem dX11_reads_68 : decode cX11_reads 68 = .ok (.aload_n 0, 1) := by decide +kernel
theorem dX11_reads_69 : decode cX11_reads 69 = .ok (.invokevirtual 93, 3) := by decide +kernel
theorem dX11_reads_72 : decode cX11_reads 72 = .ok (.bipush 59, 2) := by decide +kernel
theorem dX11_reads_74 : decode cX11_reads 74 = .ok (.if_icmp .ne 7, 3) := by decide +kernel
theorem dX11_reads_89 : decode cX11_reads 89 = .ok (.aload_n 0, 1) := by decide +kernel
theorem dX11_reads_90 : decode cX11_reads 90 = .ok (.invokevirtual 100, 3) := by decide +kernel
theorem dX11_reads_93 : decode cX11_reads 93 = .ok (.iconst (-1), 1) := by decide +kernel
theorem dX11_reads_94 : decode cX11_reads 94 = .ok (.if_icmp .eq 11, 3) := by decide +kernel
theorem dX11_reads_97 : decode cX11_reads 97 = .ok (.aload_n 0, 1) := by decide +kernel
theorem dX11_reads_98 : decode cX11_reads 98 = .ok (.aload_n 0, 1) := by decide +kernel
theorem dX11_reads_99 : decode cX11_reads 99 = .ok (.getfield 90, 3) := by decide +kernel
theorem dX11_reads_102 : decode cX11_reads 102 = .ok (.invokevirtual 111, 3) := by decide +kernel
theorem dX11_reads_51 : decode cX11_reads 51 = .ok (.aload_n 0, 1) := by decide +kernel
theorem dX11_reads_52 : decode cX11_reads 52 = .ok (.invokevirtual 93, 3) := by decide +kernel
theorem dX11_reads_55 : decode cX11_reads 55 = .ok (.bipush 59, 2) := by decide +kernel
theorem dX11_reads_57 : decode cX11_reads 57 = .ok (.if_icmp .ne (-26), 3) := by decide +kernel
theorem dX11_reads_77 : decode cX11_reads 77 = .ok (.aload_n 0, 1) := by decide +kernel
theorem dX11_reads_78 : decode cX11_reads 78 = .ok (.invokevirtual 149, 3) := by decide +kernel
theorem w_1595 : Cond.methodLink "QuarterWalksModel" 149 yX11_readsStart ∈ wAll := wI7 60 (by decide +kernel) (by decide +kernel)
theorem w_47 : Cond.selects yX11_readsStart.cls yX11_readsStart yX11_readsStart ∈ wAll := wIn 47 (by decide +kernel) (by decide +kernel)
theorem mk_X11_readsStart : mk yX11_readsStart 0 := ⟨by decide +kernel, w_110⟩
theorem w_1597 : Cond.instanceMethod yX11_readsStart ∈ wAll := wI7 62 (by decide +kernel) (by decide +kernel)
theorem w_1598 : Cond.code yX11_readsStart cX11_readsStart 1 none ∈ wAll := wI7 63 (by decide +kernel) (by decide +kernel)
theorem dX11_reads_109 : decode cX11_reads 109 = .ok (.ireturn, 1) := by decide +kernel
abbrev rm_s_X11_readsX : Room := { frames := 7, cells := 0, slots := 0, locals := 151 }
set_option maxRecDepth 100000 in
set_option maxHeartbeats 4000000 in
theorem s_X11_readsX (l : Launch) (D : va_G) (G : Nat → Nat) (b0 : Nat) (τ : Nat → Nat) (f : hM) (t : TI G 9 τ f) (u0 : Nat) (hu0 : τ u0 = 60) (ln : Int32) (hln : iv ln 0 200) (k_u0_2 : atp f u0 (fd 2 (.int ln))) (aa : Int32) (haa : iv aa 0 200) (k_u0_3 : atp f u0 (fd 3 (.int aa))) (tq : Nat) (htq : τ tq = 61) (k_u0_1 : atp f u0 (fd 1 (.ref tq))) (fa : Int32) (hfa : iv fa (-1) 200) (k_u0_4 : atp f u0 (fd 4 (.int fa))) (dq : Nat) (hdq : τ dq = 62) (k_u0_5 : atp f u0 (fd 5 (.ref dq))) (rt : Nat → Int32) (hRtq : atp f tq (eqc (.inl (G 0, 200, .inl rt)))) (rd : Nat → Int32) (hRdq : atp f dq (eqc (.inl (G 1, 10, .inl rd)))) (B : Nat → Int) (hB : ∀ k : Nat, (k : Int) < ln.toInt → (rt k).toInt = sg (B k) ∧ 0 ≤ B k ∧ B k ≤ 255)  : mI l yX11_reads cX11_reads 2 (.int) rm_s_X11_readsX D G b0 f [.ref u0] (fun r f1 => iv r (-1) 200 ∧ TI G 9 τ f1 ∧ Fr [60, 62, 60004, 60005] τ f f1 ∧ (∃ (aa1 : Int32) (fa1 : Int32) (rd1 : Nat → Int32), (atp f1 u0 (fd 3 (.int aa1)) ∧ iv aa1 0 200) ∧ (atp f1 u0 (fd 4 (.int fa1)) ∧ iv fa1 (-1) 200) ∧ atp f1 dq (eqc (.inl (G 1, 10, .inl rd1))) ∧ (r.toInt = (run B ln.toInt.toNat 0 0 (fun _ => 0) 0 0 0).1 ∧ (r.toInt = -1 → (∀ k : Nat, k < 8 → (rd1 k).toInt = (run B ln.toInt.toNat 0 0 (fun _ => 0) 0 0 0).2.1 k) ∧ (rd1 8).toInt = (run B ln.toInt.toNat 0 0 (fun _ => 0) 0 0 0).2.2.1 ∧ (rd1 9).toInt = (run B ln.toInt.toNat 0 0 (fun _ => 0) 0 0 0).2.2.2 ∧ ∀ k : Nat, k < 10 → iv (rd1 k) 0 9)))) := by
  refine met2 (own := RX11) (by decide) rfl (Nat.le_of_ble_eq_true rfl) ?_
  intro p e s m args below meth c ls Q hQ C hr hini hl h
  have hl : lv_has ls 2 [(0, .ref u0)] := hl
  obtain ⟨hx, hb, hml, hown, hts, hE0, hlk⟩ := id C
  have o := Fr.rf [60, 62, 60004, 60005] τ f
  have L12 : ∀ (n12 : Nat) (ls : Array Slot) (f_12 : hM) (H : Heap) (locs : List Loc) (v12_1 : Int32) (g12_dq_R : Nat → Int32) (g12_u0_3 : Int32) (g12_u0_4 : Int32), 10 - v12_1.toInt < (n12 : Int) → lv_has ls 2 [(0, .ref u0), (1, .int v12_1)] → hw D b0 s.heap f_12 H locs → TI G 9 τ f_12 → Fr [60, 62, 60004, 60005] τ f f_12 → iv v12_1 0 10 → iv g12_u0_3 0 0 → iv g12_u0_4 (-1) (-1) → atp f_12 u0 (fd 2 (.int ln)) → atp f_12 u0 (fd 1 (.ref tq)) → atp f_12 u0 (fd 5 (.ref dq)) → atp f_12 tq (eqc (.inl (G 0, 200, .inl rt))) → atp f_12 dq (eqc (.inl (G 1, 10, .inl g12_dq_R))) → atp f_12 u0 (fd 3 (.int g12_u0_3)) → atp f_12 u0 (fd 4 (.int g12_u0_4)) → (∀ k : Nat, g12_dq_R k = if (k : Int) < v12_1.toInt then 0 else rd k) → W p l e rm_s_X11_readsX s m args below meth c H locs 0 0 Q (F0 m 12 ls []) := by
    intro n12
    induction n12 with
    | zero => intro ls f_12 H locs v12_1 g12_dq_R g12_u0_3 g12_u0_4 hm12 hl h t_12 o_12 iv12_1 ig12_u0_3 ig12_u0_4 k12_u0_2 k12_u0_1 k12_u0_5 k12_tq_R k12_dq_R k12_u0_3 k12_u0_4 hv12_0; exact absurd hm12 (by omega)
    | succ n12 ih12 =>
      intro ls f_12 H locs v12_1 g12_dq_R g12_u0_3 g12_u0_4 hm12 hl h t_12 o_12 iv12_1 ig12_u0_3 ig12_u0_4 k12_u0_2 k12_u0_1 k12_u0_5 k12_tq_R k12_dq_R k12_u0_3 k12_u0_4 hv12_0
      have L31 : ∀ (n31 : Nat) (ls : Array Slot) (f_31 : hM) (H : Heap) (locs : List Loc) (g31_dq_R : Nat → Int32) (g31_u0_3 : Int32) (g31_u0_4 : Int32), 200 - g31_u0_3.toInt < (n31 : Int) → lv_has ls 2 [(0, .ref u0)] → hw D b0 s.heap f_31 H locs → TI G 9 τ f_31 → Fr [60, 62, 60004, 60005] τ f f_31 → iv g31_u0_3 0 200 → iv g31_u0_4 (-1) (-1) → atp f_31 u0 (fd 2 (.int ln)) → atp f_31 u0 (fd 1 (.ref tq)) → atp f_31 u0 (fd 5 (.ref dq)) → atp f_31 tq (eqc (.inl (G 0, 200, .inl rt))) → atp f_31 dq (eqc (.inl (G 1, 10, .inl g31_dq_R))) → atp f_31 u0 (fd 3 (.int g31_u0_3)) → atp f_31 u0 (fd 4 (.int g31_u0_4)) → (∃ (b : Int) (l : Nat) (w : Nat → Int), (∀ k : Nat, k < 8 → (g31_dq_R k).toInt = w k ∧ 0 ≤ w k ∧ w k ≤ 9) ∧ (b = 0 ∨ b = 1 ∨ b = 2) ∧ (b ≠ 0 → (rn 32 32 B ln.toInt.toNat (Int.toNat (g31_u0_3.toInt))) < ln.toInt.toNat ∧ B (rn 32 32 B ln.toInt.toNat (Int.toNat (g31_u0_3.toInt))) ≠ 59 ∧ (b = 1 → ¬ (48 ≤ B (rn 32 32 B ln.toInt.toNat (Int.toNat (g31_u0_3.toInt))) ∧ B (rn 32 32 B ln.toInt.toNat (Int.toNat (g31_u0_3.toInt))) ≤ 57))) ∧ (g31_dq_R 8 = 0 ∧ g31_dq_R 9 = 0) ∧ run B ln.toInt.toNat (Int.toNat (g31_u0_3.toInt)) b w l 0 0 = run B ln.toInt.toNat 0 0 (fun _ => 0) 0 0 0) → g31_u0_3.toInt ≤ ln.toInt → W p l e rm_s_X11_readsX s m args below meth c H locs 0 0 Q (F0 m 31 ls []) := by
        intro n31
        induction n31 with
        | zero => intro ls f_31 H locs g31_dq_R g31_u0_3 g31_u0_4 hm31 hl h t_31 o_31 ig31_u0_3 ig31_u0_4 k31_u0_2 k31_u0_1 k31_u0_5 k31_tq_R k31_dq_R k31_u0_3 k31_u0_4 hv31_0 hv31_1; exact absurd hm31 (by omega)
        | succ n31 ih31 =>
          intro ls f_31 H locs g31_dq_R g31_u0_3 g31_u0_4 hm31 hl h t_31 o_31 ig31_u0_3 ig31_u0_4 k31_u0_2 k31_u0_1 k31_u0_5 k31_tq_R k31_dq_R k31_u0_3 k31_u0_4 hv31_0 hv31_1
          obtain ⟨bb, lb, w, hw, hbb, hnx, ⟨h8a, h9a⟩, hrun⟩ := hv31_0
          refine lv_aload_n hx hb dX11_reads_31 rfl (lv_at hl 0 rfl) ?_
          obtain ⟨_, r1⟩ := t_rec t_31 hu0 (by decide) wf_60
          refine k_v (r_V C h hl (As := []) (rest := []) (s_X11_readsStepX l D G b0 τ f_31 t_31 u0 hu0 ln hln k31_u0_2 g31_u0_3 ig31_u0_3 k31_u0_3 tq htq k31_u0_1 g31_u0_4 ig31_u0_4 k31_u0_4 dq hdq k31_u0_5 rt k31_tq_R g31_dq_R k31_dq_R B hB bb lb 0 0 w hw hbb hnx (by omega)) r1 (Cn := RX11) (T := TX11) (N := 32) rfl rfl mk_X11_readsStep w_1553 w_1555 w_39 w_1556 ⟨Nat.le_of_ble_eq_true rfl, Nat.le_of_ble_eq_true rfl⟩ rfl (Nat.le_of_ble_eq_true rfl) ⟨Nat.le_of_ble_eq_true rfl, Nat.le_of_ble_eq_true rfl⟩ rfl dX11_reads_32) h (fun f3 H locs p4 h => ?_)
          obtain ⟨tf3, ogf3, ⟨aa1_f3, fa1_f3, rd1_f3, ⟨kpu0_3f3, ipu0_3f3⟩, ⟨kpu0_4f3, ipu0_4f3⟩, kRdqf3, jtf3⟩⟩ := p4
          have of3 : Fr [60, 62, 60004, 60005] τ f f3 := Fr.tr o_31 ogf3 (by decide) (by decide)
          have k5 := atp.fk k31_u0_2 ogf3 hu0 (by decide) (by decide)
          have k6 := atp.fk k31_u0_1 ogf3 hu0 (by decide) (by decide)
          have k7 := atp.fk k31_u0_5 ogf3 hu0 (by decide) (by decide)
          have k8 := atp.fr k31_tq_R ogf3 htq (by decide)
          refine lv_aload_n hx hb dX11_reads_35 rfl (lv_at hl 0 rfl) ?_
          refine t_getfd C h tf3 hu0 (by decide) wf_60 (v := .int fa1_f3) kpu0_4f3 fl_X11_97 dX11_reads_36 ?_
          refine lv_iconst (v := -1) hx hb dX11_reads_39 (by decide) ?_
          refine lv_icmp_ne (tgt := 60) hx hb dX11_reads_40 (by decide) (fun c9 => ?_) (fun c9 => ?_)
          · have c10 : fa1_f3.toInt ≠ (-1) := fun z_ => c9 (Int32.toInt_inj.mp z_)
            have i11 : iv fa1_f3 0 200 := iv_Nl c10 ipu0_4f3 (by decide)
            refine lv_aload_n hx hb dX11_reads_60 rfl (lv_at hl 0 rfl) ?_
            refine t_getfd C h tf3 hu0 (by decide) wf_60 (v := .int fa1_f3) kpu0_4f3 fl_X11_97 dX11_reads_61 ?_
            refine lv_iconst (v := -1) hx hb dX11_reads_64 (by decide) ?_
            refine lv_icmp_ne (tgt := 81) hx hb dX11_reads_65 (by decide) (fun c14 => ?_) (fun c14 => ?_)
            · have c15 : fa1_f3.toInt ≠ (-1) := fun z_ => c14 (Int32.toInt_inj.mp z_)
              refine lv_aload_n hx hb dX11_reads_81 rfl (lv_at hl 0 rfl) ?_
              refine t_getfd C h tf3 hu0 (by decide) wf_60 (v := .int fa1_f3) kpu0_4f3 fl_X11_97 dX11_reads_82 ?_
              refine lv_iconst (v := -1) hx hb dX11_reads_85 (by decide) ?_
              refine lv_icmp_ne (tgt := 105) hx hb dX11_reads_86 (by decide) (fun c17 => ?_) (fun c17 => ?_)
              · have c18 : fa1_f3.toInt ≠ (-1) := fun z_ => c17 (Int32.toInt_inj.mp z_)
                refine lv_aload_n hx hb dX11_reads_105 rfl (lv_at hl 0 rfl) ?_
                refine t_getfd C h tf3 hu0 (by decide) wf_60 (v := .int fa1_f3) kpu0_4f3 fl_X11_97 dX11_reads_106 ?_
                exact u_iret C h hr hQ (⟨(iv_w i11 (by decide)), tf3, of3, ⟨aa1_f3, fa1_f3, rd1_f3, ⟨kpu0_3f3, ipu0_3f3⟩, ⟨kpu0_4f3, (iv_w i11 (by decide))⟩, kRdqf3, (by
                    have h6 := jtf3.2.2 (by omega)
                    rw [← hrun, h6]; exact ⟨rfl, fun z_ => absurd z_ (by omega)⟩)⟩⟩) (Nat.le_of_ble_eq_true rfl) (Nat.le_of_ble_eq_true rfl) dX11_reads_109
              · have c19 : fa1_f3.toInt = (-1) := congrArg Int32.toInt c17
                exact (iv_cq_ c19 i11 (iv_k (x := (-1)) (k := (-1)) rfl) (by decide)).elim
            · have c16 : fa1_f3.toInt = (-1) := congrArg Int32.toInt c14
              exact (iv_cq_ c16 i11 (iv_k (x := (-1)) (k := (-1)) rfl) (by decide)).elim
          · have c12 : fa1_f3.toInt = (-1) := congrArg Int32.toInt c9
            have i13 : iv fa1_f3 (-1) (-1) := iv_Q c12 ipu0_4f3 (iv_k (x := (-1)) (k := (-1)) rfl) (by decide)
            refine lv_aload_n hx hb dX11_reads_43 rfl (lv_at hl 0 rfl) ?_
            obtain ⟨_, r20⟩ := t_rec tf3 hu0 (by decide) wf_60
            refine k_i (r_V C h hl (As := []) (rest := []) (s_X11_lookX l D G b0 τ f3 tf3 u0 hu0 ln hln k5 aa1_f3 ipu0_3f3 kpu0_3f3 tq htq k6 rt k8 B hB) r20 (Cn := RX11) (T := TX11) (N := 32) rfl rfl mk_X11_look w_1557 w_1559 w_40 w_1560 ⟨Nat.le_of_ble_eq_true rfl, Nat.le_of_ble_eq_true rfl⟩ rfl (Nat.le_of_ble_eq_true rfl) ⟨Nat.le_of_ble_eq_true rfl, Nat.le_of_ble_eq_true rfl⟩ rfl dX11_reads_44) h (fun r21 f22 H locs p23 h => ?_)
            obtain ⟨ir21, tf22, ogf22, x0r21, ⟨aa1_f22, kpu0_3f22, ipu0_3f22, rpu0_3f22⟩⟩ := p23
            have of22 : Fr [60, 62, 60004, 60005] τ f f22 := Fr.tr of3 ogf22 (by decide) (by decide)
            have k24 := atp.fk k5 ogf22 hu0 (by decide) (by decide)
            have k25 := atp.fk k6 ogf22 hu0 (by decide) (by decide)
            have k26 := atp.fk k7 ogf22 hu0 (by decide) (by decide)
            have k27 := atp.fr k8 ogf22 htq (by decide)
            have k28 := atp.fk kpu0_4f3 ogf22 hu0 (by decide) (by decide)
            have k29 := atp.fr kRdqf3 ogf22 hdq (by decide)
            have hge := rn_ge (lo := 32) (hi := 32) (B := B) (L := ln.toInt.toNat) aa1_f3.toInt.toNat
            refine lv_iconst (v := -1) hx hb dX11_reads_47 (by decide) ?_
            refine lv_icmp_eq (tgt := 60) hx hb dX11_reads_48 (by decide) (fun c30 => ?_) (fun c30 => ?_)
            · have c31 : r21.toInt = (-1) := congrArg Int32.toInt c30
              have i32 : iv r21 (-1) (-1) := iv_Q c31 ir21 (iv_k (x := (-1)) (k := (-1)) rfl) (by decide)
              refine lv_aload_n hx hb dX11_reads_60 rfl (lv_at hl 0 rfl) ?_
              refine t_getfd C h tf22 hu0 (by decide) wf_60 (v := .int fa1_f3) k28 fl_X11_97 dX11_reads_61 ?_
              refine lv_iconst (v := -1) hx hb dX11_reads_64 (by decide) ?_
              refine lv_icmp_ne (tgt := 81) hx hb dX11_reads_65 (by decide) (fun c35 => ?_) (fun c35 => ?_)
              · have c36 : fa1_f3.toInt ≠ (-1) := fun z_ => c35 (Int32.toInt_inj.mp z_)
                exact (iv_cn_ c36 i13 (iv_k (x := (-1)) (k := (-1)) rfl) (by decide)).elim
              · have c37 : fa1_f3.toInt = (-1) := congrArg Int32.toInt c35
                refine lv_aload_n hx hb dX11_reads_68 rfl (lv_at hl 0 rfl) ?_
                obtain ⟨_, r38⟩ := t_rec tf22 hu0 (by decide) wf_60
                refine k_i (r_V C h hl (As := []) (rest := []) (s_X11_hereX l D G b0 τ f22 tf22 u0 hu0 ln hln k24 aa1_f22 ipu0_3f22 kpu0_3f22 tq htq k25 rt k27 B hB) r38 (Cn := RX11) (T := TX11) (N := 32) rfl rfl mk_X11_here w_1561 w_1563 w_41 w_1564 ⟨Nat.le_of_ble_eq_true rfl, Nat.le_of_ble_eq_true rfl⟩ rfl (Nat.le_of_ble_eq_true rfl) ⟨Nat.le_of_ble_eq_true rfl, Nat.le_of_ble_eq_true rfl⟩ rfl dX11_reads_69) h (fun r39 f40 H locs p41 h => ?_)
                obtain ⟨ir39, tf40, ogf40, x0r39⟩ := p41
                have egf40 := Fr.nil2 ogf40
                subst egf40
                refine lv_bipush (v := 59) hx hb dX11_reads_72 (by decide) ?_
                refine lv_icmp_ne (tgt := 81) hx hb dX11_reads_74 (by decide) (fun c42 => ?_) (fun c42 => ?_)
                · have c43 : r39.toInt ≠ 59 := fun z_ => c42 (Int32.toInt_inj.mp z_)
                  refine lv_aload_n hx hb dX11_reads_81 rfl (lv_at hl 0 rfl) ?_
                  refine t_getfd C h tf22 hu0 (by decide) wf_60 (v := .int fa1_f3) k28 fl_X11_97 dX11_reads_82 ?_
                  refine lv_iconst (v := -1) hx hb dX11_reads_85 (by decide) ?_
                  refine lv_icmp_ne (tgt := 105) hx hb dX11_reads_86 (by decide) (fun c46 => ?_) (fun c46 => ?_)
                  · have c47 : fa1_f3.toInt ≠ (-1) := fun z_ => c46 (Int32.toInt_inj.mp z_)
                    exact (iv_cn_ c47 i13 (iv_k (x := (-1)) (k := (-1)) rfl) (by decide)).elim
                  · have c48 : fa1_f3.toInt = (-1) := congrArg Int32.toInt c46
                    refine lv_aload_n hx hb dX11_reads_89 rfl (lv_at hl 0 rfl) ?_
                    obtain ⟨_, r49⟩ := t_rec tf22 hu0 (by decide) wf_60
                    refine k_i (r_V C h hl (As := []) (rest := []) (s_X11_lookX l D G b0 τ f22 tf22 u0 hu0 ln hln k24 aa1_f22 ipu0_3f22 kpu0_3f22 tq htq k25 rt k27 B hB) r49 (Cn := RX11) (T := TX11) (N := 32) rfl rfl mk_X11_look w_1557 w_1559 w_40 w_1560 ⟨Nat.le_of_ble_eq_true rfl, Nat.le_of_ble_eq_true rfl⟩ rfl (Nat.le_of_ble_eq_true rfl) ⟨Nat.le_of_ble_eq_true rfl, Nat.le_of_ble_eq_true rfl⟩ rfl dX11_reads_90) h (fun r50 f51 H locs p52 h => ?_)
                    obtain ⟨ir50, tf51, ogf51, x0r50, ⟨aa1_f51, kpu0_3f51, ipu0_3f51, rpu0_3f51⟩⟩ := p52
                    have of51 : Fr [60, 62, 60004, 60005] τ f f51 := Fr.tr of22 ogf51 (by decide) (by decide)
                    have k53 := atp.fk k24 ogf51 hu0 (by decide) (by decide)
                    have k54 := atp.fk k25 ogf51 hu0 (by decide) (by decide)
                    have k55 := atp.fk k26 ogf51 hu0 (by decide) (by decide)
                    have k56 := atp.fr k27 ogf51 htq (by decide)
                    have k57 := atp.fk k28 ogf51 hu0 (by decide) (by decide)
                    have k58 := atp.fr k29 ogf51 hdq (by decide)
                    refine lv_iconst (v := -1) hx hb dX11_reads_93 (by decide) ?_
                    refine lv_icmp_eq (tgt := 105) hx hb dX11_reads_94 (by decide) (fun c59 => ?_) (fun c59 => ?_)
                    · have c60 : r50.toInt = (-1) := congrArg Int32.toInt c59
                      have i61 : iv r50 (-1) (-1) := iv_Q c60 ir50 (iv_k (x := (-1)) (k := (-1)) rfl) (by decide)
                      refine lv_aload_n hx hb dX11_reads_105 rfl (lv_at hl 0 rfl) ?_
                      refine t_getfd C h tf51 hu0 (by decide) wf_60 (v := .int fa1_f3) k57 fl_X11_97 dX11_reads_106 ?_
                      exact u_iret C h hr hQ (⟨(iv_w i13 (by decide)), tf51, of51, ⟨aa1_f51, fa1_f3, rd1_f3, ⟨kpu0_3f51, ipu0_3f51⟩, ⟨k57, (iv_w i13 (by decide))⟩, k58, (by
                          have eR := rn_rn (lo := 32) (hi := 32) (B := B) (L := ln.toInt.toNat) aa1_f3.toInt.toNat
                          have eA : aa1_f22.toInt.toNat = (rn 32 32 B ln.toInt.toNat aa1_f3.toInt.toNat) := by omega
                          rw [← eA] at eR
                          obtain ⟨h8_, hok_, -⟩ := jtf3
                          have hfz_ : fa1_f3.toInt = -1 := by omega
                          obtain ⟨hlt_, hle_, b1, l1, w1, hw1, hb1, hd1, hr1⟩ := hok_ hfz_
                          rw [← hrun, ← hr1, run_sk aa1_f3.toInt.toNat, rs_end (by omega) (by omega)]
                          have e8 := (h8_ 8 (by decide)).trans h8a
                          have e9 := (h8_ 9 (by decide)).trans h9a
                          refine ⟨by show _ = (-1 : Int); omega, fun _ => ⟨fun k hk => (hw1 k hk).1, by rw [e8]; rfl, by rw [e9]; rfl, fun k hk => ?_⟩⟩
                          rcases (by omega : k < 8 ∨ k = 8 ∨ k = 9) with q_ | q_ | q_
                          · have := hw1 k q_; omega
                          · rw [q_, e8]; exact ⟨by decide, by decide⟩
                          · rw [q_, e9]; exact ⟨by decide, by decide⟩)⟩⟩) (Nat.le_of_ble_eq_true rfl) (Nat.le_of_ble_eq_true rfl) dX11_reads_109
                    · have c62 : r50.toInt ≠ (-1) := fun z_ => c59 (Int32.toInt_inj.mp z_)
                      have i63 : iv r50 0 255 := iv_Nl c62 ir50 (by decide)
                      refine lv_aload_n hx hb dX11_reads_97 rfl (lv_at hl 0 rfl) ?_
                      refine lv_aload_n hx hb dX11_reads_98 rfl (lv_at hl 0 rfl) ?_
                      refine t_getfd C h tf51 hu0 (by decide) wf_60 (v := .int aa1_f51) kpu0_3f51 fl_X11_90 dX11_reads_99 ?_
                      obtain ⟨_, r64⟩ := t_rec tf51 hu0 (by decide) wf_60
                      refine k_v (r_V C h hl (As := [.int aa1_f51]) (rest := []) (s_X11_failsX l D G b0 τ f51 tf51 u0 hu0 aa1_f51 ipu0_3f51 fa1_f3 (iv_w i13 (by decide)) k57) r64 (Cn := RX11) (T := TX11) (N := 32) rfl rfl mk_X11_fails w_1583 w_1585 w_44 w_1586 ⟨Nat.le_of_ble_eq_true rfl, Nat.le_of_ble_eq_true rfl⟩ rfl (Nat.le_of_ble_eq_true rfl) ⟨Nat.le_of_ble_eq_true rfl, Nat.le_of_ble_eq_true rfl⟩ rfl dX11_reads_102) h (fun f66 H locs p67 h => ?_)
                      obtain ⟨tf66, ogf66, ⟨fa1_f66, kpu0_4f66, ipu0_4f66, rpu0_4f66⟩⟩ := p67
                      have of66 : Fr [60, 62, 60004, 60005] τ f f66 := Fr.tr of51 ogf66 (by decide) (by decide)
                      have k68 := atp.fk k53 ogf66 hu0 (by decide) (by decide)
                      have k69 := atp.fk k54 ogf66 hu0 (by decide) (by decide)
                      have k70 := atp.fk k55 ogf66 hu0 (by decide) (by decide)
                      have k71 := atp.fr k56 ogf66 htq (by decide)
                      have k72 := atp.fr k58 ogf66 hdq (by decide)
                      have k73 := atp.fk kpu0_3f51 ogf66 hu0 (by decide) (by decide)
                      refine lv_aload_n hx hb dX11_reads_105 rfl (lv_at hl 0 rfl) ?_
                      refine t_getfd C h tf66 hu0 (by decide) wf_60 (v := .int fa1_f66) kpu0_4f66 fl_X11_97 dX11_reads_106 ?_
                      exact u_iret C h hr hQ (⟨ipu0_4f66, tf66, of66, ⟨aa1_f51, fa1_f66, rd1_f3, ⟨k73, ipu0_3f51⟩, ⟨kpu0_4f66, ipu0_4f66⟩, k72, (by
                          have eR := rn_rn (lo := 32) (hi := 32) (B := B) (L := ln.toInt.toNat) aa1_f3.toInt.toNat
                          have eA : aa1_f22.toInt.toNat = (rn 32 32 B ln.toInt.toNat aa1_f3.toInt.toNat) := by omega
                          rw [← eA] at eR
                          exfalso; omega)⟩⟩) (Nat.le_of_ble_eq_true rfl) (Nat.le_of_ble_eq_true rfl) dX11_reads_109
                · have c44 : r39.toInt = 59 := congrArg Int32.toInt c42
                  have i45 : iv r39 59 59 := iv_Q c44 ir39 (iv_k (x := 59) (k := 59) rfl) (by decide)
                  exfalso; omega
            · have c33 : r21.toInt ≠ (-1) := fun z_ => c30 (Int32.toInt_inj.mp z_)
              have i34 : iv r21 0 255 := iv_Nl c33 ir21 (by decide)
              refine lv_aload_n hx hb dX11_reads_51 rfl (lv_at hl 0 rfl) ?_
              obtain ⟨_, r74⟩ := t_rec tf22 hu0 (by decide) wf_60
              refine k_i (r_V C h hl (As := []) (rest := []) (s_X11_hereX l D G b0 τ f22 tf22 u0 hu0 ln hln k24 aa1_f22 ipu0_3f22 kpu0_3f22 tq htq k25 rt k27 B hB) r74 (Cn := RX11) (T := TX11) (N := 32) rfl rfl mk_X11_here w_1561 w_1563 w_41 w_1564 ⟨Nat.le_of_ble_eq_true rfl, Nat.le_of_ble_eq_true rfl⟩ rfl (Nat.le_of_ble_eq_true rfl) ⟨Nat.le_of_ble_eq_true rfl, Nat.le_of_ble_eq_true rfl⟩ rfl dX11_reads_52) h (fun r75 f76 H locs p77 h => ?_)
              obtain ⟨ir75, tf76, ogf76, x0r75⟩ := p77
              have egf76 := Fr.nil2 ogf76
              subst egf76
              refine lv_bipush (v := 59) hx hb dX11_reads_55 (by decide) ?_
              refine lv_icmp_ne (tgt := 31) hx hb dX11_reads_57 (by decide) (fun c78 => ?_) (fun c78 => ?_)
              · have c79 : r75.toInt ≠ 59 := fun z_ => c78 (Int32.toInt_inj.mp z_)
                exact ih31 ls f22 H locs rd1_f3 aa1_f22 fa1_f3 (show 200 - aa1_f22.toInt < _ by omega) (lv_cons hl 0 rfl (lv_nil hl)) h tf22 of22 ipu0_3f22 i13 k24 k25 k26 k27 k29 kpu0_3f22 k28 (show ∃ (b : Int) (l : Nat) (w : Nat → Int), (∀ k : Nat, k < 8 → (rd1_f3 k).toInt = w k ∧ 0 ≤ w k ∧ w k ≤ 9) ∧ (b = 0 ∨ b = 1 ∨ b = 2) ∧ (b ≠ 0 → (rn 32 32 B ln.toInt.toNat (Int.toNat (aa1_f22.toInt))) < ln.toInt.toNat ∧ B (rn 32 32 B ln.toInt.toNat (Int.toNat (aa1_f22.toInt))) ≠ 59 ∧ (b = 1 → ¬ (48 ≤ B (rn 32 32 B ln.toInt.toNat (Int.toNat (aa1_f22.toInt))) ∧ B (rn 32 32 B ln.toInt.toNat (Int.toNat (aa1_f22.toInt))) ≤ 57))) ∧ (rd1_f3 8 = 0 ∧ rd1_f3 9 = 0) ∧ run B ln.toInt.toNat (Int.toNat (aa1_f22.toInt)) b w l 0 0 = run B ln.toInt.toNat 0 0 (fun _ => 0) 0 0 0 from (by
                    obtain ⟨h8_, hok_, -⟩ := jtf3
                    have hfz_ : fa1_f3.toInt = -1 := by omega
                    obtain ⟨hlt_, hle_, b1, l1, w1, hw1, hb1, hd1, hr1⟩ := hok_ hfz_
                    have eA : aa1_f22.toInt.toNat = (rn 32 32 B ln.toInt.toNat aa1_f3.toInt.toNat) := by omega
                    have eB : (rn 32 32 B ln.toInt.toNat aa1_f22.toInt.toNat) = (rn 32 32 B ln.toInt.toNat aa1_f3.toInt.toNat) := by rw [eA]; exact rn_rn _
                    have eC : rn 32 32 B ln.toInt.toNat aa1_f22.toInt.toNat = aa1_f22.toInt.toNat := eB.trans eA.symm
                    refine ⟨b1, l1, w1, hw1, Or.inr hb1, fun _ => ?_, ⟨(h8_ 8 (by decide)).trans h8a, (h8_ 9 (by decide)).trans h9a⟩, ?_⟩
                    · rw [show Int.toNat aa1_f22.toInt = aa1_f22.toInt.toNat from rfl, eC]; refine ⟨by omega, by omega, fun z_ q_ => hd1 z_ ?_⟩; rw [← eA]; exact ⟨by omega, q_⟩
                    · rw [show Int.toNat aa1_f22.toInt = (rn 32 32 B ln.toInt.toNat aa1_f3.toInt.toNat) from eA, ← run_sk, hr1]; exact hrun)) (show aa1_f22.toInt ≤ ln.toInt by omega)
              · have c80 : r75.toInt = 59 := congrArg Int32.toInt c78
                have i81 : iv r75 59 59 := iv_Q c80 ir75 (iv_k (x := 59) (k := 59) rfl) (by decide)
                refine lv_aload_n hx hb dX11_reads_60 rfl (lv_at hl 0 rfl) ?_
                refine t_getfd C h tf22 hu0 (by decide) wf_60 (v := .int fa1_f3) k28 fl_X11_97 dX11_reads_61 ?_
                refine lv_iconst (v := -1) hx hb dX11_reads_64 (by decide) ?_
                refine lv_icmp_ne (tgt := 81) hx hb dX11_reads_65 (by decide) (fun c82 => ?_) (fun c82 => ?_)
                · have c83 : fa1_f3.toInt ≠ (-1) := fun z_ => c82 (Int32.toInt_inj.mp z_)
                  exact (iv_cn_ c83 i13 (iv_k (x := (-1)) (k := (-1)) rfl) (by decide)).elim
                · have c84 : fa1_f3.toInt = (-1) := congrArg Int32.toInt c82
                  refine lv_aload_n hx hb dX11_reads_68 rfl (lv_at hl 0 rfl) ?_
                  obtain ⟨_, r85⟩ := t_rec tf22 hu0 (by decide) wf_60
                  refine k_i (r_V C h hl (As := []) (rest := []) (s_X11_hereX l D G b0 τ f22 tf22 u0 hu0 ln hln k24 aa1_f22 ipu0_3f22 kpu0_3f22 tq htq k25 rt k27 B hB) r85 (Cn := RX11) (T := TX11) (N := 32) rfl rfl mk_X11_here w_1561 w_1563 w_41 w_1564 ⟨Nat.le_of_ble_eq_true rfl, Nat.le_of_ble_eq_true rfl⟩ rfl (Nat.le_of_ble_eq_true rfl) ⟨Nat.le_of_ble_eq_true rfl, Nat.le_of_ble_eq_true rfl⟩ rfl dX11_reads_69) h (fun r86 f87 H locs p88 h => ?_)
                  obtain ⟨ir86, tf87, ogf87, x0r86⟩ := p88
                  have egf87 := Fr.nil2 ogf87
                  subst egf87
                  refine lv_bipush (v := 59) hx hb dX11_reads_72 (by decide) ?_
                  refine lv_icmp_ne (tgt := 81) hx hb dX11_reads_74 (by decide) (fun c89 => ?_) (fun c89 => ?_)
                  · have c90 : r86.toInt ≠ 59 := fun z_ => c89 (Int32.toInt_inj.mp z_)
                    exfalso; omega
                  · have c91 : r86.toInt = 59 := congrArg Int32.toInt c89
                    have i92 : iv r86 59 59 := iv_Q c91 ir86 (iv_k (x := 59) (k := 59) rfl) (by decide)
                    refine lv_aload_n hx hb dX11_reads_77 rfl (lv_at hl 0 rfl) ?_
                    obtain ⟨h8_, hok_, -⟩ := jtf3
                    have hfz_ : fa1_f3.toInt = -1 := by omega
                    obtain ⟨hlt_, hle_, b1, l1, w1, hw1, hb1, hd1, hr1⟩ := hok_ hfz_
                    have eA : aa1_f22.toInt.toNat = (rn 32 32 B ln.toInt.toNat aa1_f3.toInt.toNat) := by omega
                    have i93 : iv aa1_f22 0 199 := ⟨by omega, by omega⟩
                    obtain ⟨_, r94⟩ := t_rec tf22 hu0 (by decide) wf_60
                    refine k_v (r_V C h hl (As := []) (rest := []) (s_X11_readsStartX l D G b0 τ f22 tf22 u0 hu0 ln hln k24 aa1_f22 i93 kpu0_3f22 tq htq k25 fa1_f3 i13 k28 dq hdq k26 rt k27 rd1_f3 k29 B hB b1 l1 0 0 w1 hb1 (by omega) (by omega)) r94 (Cn := RX11) (T := TX11) (N := 32) rfl rfl mk_X11_readsStart w_1595 w_1597 w_47 w_1598 ⟨Nat.le_of_ble_eq_true rfl, Nat.le_of_ble_eq_true rfl⟩ rfl (Nat.le_of_ble_eq_true rfl) ⟨Nat.le_of_ble_eq_true rfl, Nat.le_of_ble_eq_true rfl⟩ rfl dX11_reads_78) h (fun f96 H locs p97 h => ?_)
                    obtain ⟨tf96, ogf96, ⟨aa1_f96, fa1_f96, rd1_f96, ⟨kpu0_3f96, ipu0_3f96⟩, ⟨kpu0_4f96, ipu0_4f96⟩, kRdqf96, jtf96⟩⟩ := p97
                    have of96 : Fr [60, 62, 60004, 60005] τ f f96 := Fr.tr of22 ogf96 (by decide) (by decide)
                    have k98 := atp.fk k24 ogf96 hu0 (by decide) (by decide)
                    have k99 := atp.fk k25 ogf96 hu0 (by decide) (by decide)
                    have k100 := atp.fk k26 ogf96 hu0 (by decide) (by decide)
                    have k101 := atp.fr k27 ogf96 htq (by decide)
                    refine lv_aload_n hx hb dX11_reads_81 rfl (lv_at hl 0 rfl) ?_
                    refine t_getfd C h tf96 hu0 (by decide) wf_60 (v := .int fa1_f96) kpu0_4f96 fl_X11_97 dX11_reads_82 ?_
                    refine lv_iconst (v := -1) hx hb dX11_reads_85 (by decide) ?_
                    refine lv_icmp_ne (tgt := 105) hx hb dX11_reads_86 (by decide) (fun c102 => ?_) (fun c102 => ?_)
                    · have c103 : fa1_f96.toInt ≠ (-1) := fun z_ => c102 (Int32.toInt_inj.mp z_)
                      have i104 : iv fa1_f96 0 200 := iv_Nl c103 ipu0_4f96 (by decide)
                      refine lv_aload_n hx hb dX11_reads_105 rfl (lv_at hl 0 rfl) ?_
                      refine t_getfd C h tf96 hu0 (by decide) wf_60 (v := .int fa1_f96) kpu0_4f96 fl_X11_97 dX11_reads_106 ?_
                      exact u_iret C h hr hQ (⟨(iv_w i104 (by decide)), tf96, of96, ⟨aa1_f96, fa1_f96, rd1_f96, ⟨kpu0_3f96, ipu0_3f96⟩, ⟨kpu0_4f96, (iv_w i104 (by decide))⟩, kRdqf96, (by
                          have hRA : run B ln.toInt.toNat aa1_f22.toInt.toNat b1 w1 l1 0 0 = run B ln.toInt.toNat 0 0 (fun _ => 0) 0 0 0 := by rw [← hrun, ← hr1, run_sk aa1_f3.toInt.toNat, eA]
                          rw [← hRA]
                          have h6 := jtf96.2.2 (by omega)
                          rw [h6]; exact ⟨rfl, fun z_ => absurd z_ (by omega)⟩)⟩⟩) (Nat.le_of_ble_eq_true rfl) (Nat.le_of_ble_eq_true rfl) dX11_reads_109
                    · have c105 : fa1_f96.toInt = (-1) := congrArg Int32.toInt c102
                      have i106 : iv fa1_f96 (-1) (-1) := iv_Q c105 ipu0_4f96 (iv_k (x := (-1)) (k := (-1)) rfl) (by decide)
                      refine lv_aload_n hx hb dX11_reads_89 rfl (lv_at hl 0 rfl) ?_
                      obtain ⟨_, r107⟩ := t_rec tf96 hu0 (by decide) wf_60
                      refine k_i (r_V C h hl (As := []) (rest := []) (s_X11_lookX l D G b0 τ f96 tf96 u0 hu0 ln hln k98 aa1_f96 ipu0_3f96 kpu0_3f96 tq htq k99 rt k101 B hB) r107 (Cn := RX11) (T := TX11) (N := 32) rfl rfl mk_X11_look w_1557 w_1559 w_40 w_1560 ⟨Nat.le_of_ble_eq_true rfl, Nat.le_of_ble_eq_true rfl⟩ rfl (Nat.le_of_ble_eq_true rfl) ⟨Nat.le_of_ble_eq_true rfl, Nat.le_of_ble_eq_true rfl⟩ rfl dX11_reads_90) h (fun r108 f109 H locs p110 h => ?_)
                      obtain ⟨ir108, tf109, ogf109, x0r108, ⟨aa1_f109, kpu0_3f109, ipu0_3f109, rpu0_3f109⟩⟩ := p110
                      have of109 : Fr [60, 62, 60004, 60005] τ f f109 := Fr.tr of96 ogf109 (by decide) (by decide)
                      have k111 := atp.fk k98 ogf109 hu0 (by decide) (by decide)
                      have k112 := atp.fk k99 ogf109 hu0 (by decide) (by decide)
                      have k113 := atp.fk k100 ogf109 hu0 (by decide) (by decide)
                      have k114 := atp.fr k101 ogf109 htq (by decide)
                      have k115 := atp.fk kpu0_4f96 ogf109 hu0 (by decide) (by decide)
                      have k116 := atp.fr kRdqf96 ogf109 hdq (by decide)
                      refine lv_iconst (v := -1) hx hb dX11_reads_93 (by decide) ?_
                      refine lv_icmp_eq (tgt := 105) hx hb dX11_reads_94 (by decide) (fun c117 => ?_) (fun c117 => ?_)
                      · have c118 : r108.toInt = (-1) := congrArg Int32.toInt c117
                        have i119 : iv r108 (-1) (-1) := iv_Q c118 ir108 (iv_k (x := (-1)) (k := (-1)) rfl) (by decide)
                        refine lv_aload_n hx hb dX11_reads_105 rfl (lv_at hl 0 rfl) ?_
                        refine t_getfd C h tf109 hu0 (by decide) wf_60 (v := .int fa1_f96) k115 fl_X11_97 dX11_reads_106 ?_
                        exact u_iret C h hr hQ (⟨(iv_w i106 (by decide)), tf109, of109, ⟨aa1_f109, fa1_f96, rd1_f96, ⟨kpu0_3f109, ipu0_3f109⟩, ⟨k115, (iv_w i106 (by decide))⟩, k116, (by
                            have hRA : run B ln.toInt.toNat aa1_f22.toInt.toNat b1 w1 l1 0 0 = run B ln.toInt.toNat 0 0 (fun _ => 0) 0 0 0 := by rw [← hrun, ← hr1, run_sk aa1_f3.toInt.toNat, eA]
                            have h6 := jtf96.2.1 (by omega)
                            have hk8 := jtf96.1
                            rw [← hRA, ← h6.2, run_sk aa1_f96.toInt.toNat, rs_end (by omega) (by omega)]
                            refine ⟨by show _ = (-1 : Int); omega, fun _ => ⟨fun k hk => ?_, rfl, rfl, fun k hk => ?_⟩⟩
                            · rw [hk8 k hk]; exact (hw1 k hk).1
                            · rcases (by omega : k < 8 ∨ k = 8 ∨ k = 9) with q_ | q_ | q_
                              · rw [hk8 k q_]; have := hw1 k q_; omega
                              · rw [q_]; exact h6.1.1
                              · rw [q_]; exact h6.1.2)⟩⟩) (Nat.le_of_ble_eq_true rfl) (Nat.le_of_ble_eq_true rfl) dX11_reads_109
                      · have c120 : r108.toInt ≠ (-1) := fun z_ => c117 (Int32.toInt_inj.mp z_)
                        have i121 : iv r108 0 255 := iv_Nl c120 ir108 (by decide)
                        refine lv_aload_n hx hb dX11_reads_97 rfl (lv_at hl 0 rfl) ?_
                        refine lv_aload_n hx hb dX11_reads_98 rfl (lv_at hl 0 rfl) ?_
                        refine t_getfd C h tf109 hu0 (by decide) wf_60 (v := .int aa1_f109) kpu0_3f109 fl_X11_90 dX11_reads_99 ?_
                        obtain ⟨_, r122⟩ := t_rec tf109 hu0 (by decide) wf_60
                        refine k_v (r_V C h hl (As := [.int aa1_f109]) (rest := []) (s_X11_failsX l D G b0 τ f109 tf109 u0 hu0 aa1_f109 ipu0_3f109 fa1_f96 (iv_w i106 (by decide)) k115) r122 (Cn := RX11) (T := TX11) (N := 32) rfl rfl mk_X11_fails w_1583 w_1585 w_44 w_1586 ⟨Nat.le_of_ble_eq_true rfl, Nat.le_of_ble_eq_true rfl⟩ rfl (Nat.le_of_ble_eq_true rfl) ⟨Nat.le_of_ble_eq_true rfl, Nat.le_of_ble_eq_true rfl⟩ rfl dX11_reads_102) h (fun f124 H locs p125 h => ?_)
                        obtain ⟨tf124, ogf124, ⟨fa1_f124, kpu0_4f124, ipu0_4f124, rpu0_4f124⟩⟩ := p125
                        have of124 : Fr [60, 62, 60004, 60005] τ f f124 := Fr.tr of109 ogf124 (by decide) (by decide)
                        have k126 := atp.fk k111 ogf124 hu0 (by decide) (by decide)
                        have k127 := atp.fk k112 ogf124 hu0 (by decide) (by decide)
                        have k128 := atp.fk k113 ogf124 hu0 (by decide) (by decide)
                        have k129 := atp.fr k114 ogf124 htq (by decide)
                        have k130 := atp.fr k116 ogf124 hdq (by decide)
                        have k131 := atp.fk kpu0_3f109 ogf124 hu0 (by decide) (by decide)
                        refine lv_aload_n hx hb dX11_reads_105 rfl (lv_at hl 0 rfl) ?_
                        refine t_getfd C h tf124 hu0 (by decide) wf_60 (v := .int fa1_f124) kpu0_4f124 fl_X11_97 dX11_reads_106 ?_
                        exact u_iret C h hr hQ (⟨ipu0_4f124, tf124, of124, ⟨aa1_f109, fa1_f124, rd1_f96, ⟨k131, ipu0_3f109⟩, ⟨kpu0_4f124, ipu0_4f124⟩, k130, (by
                            have hRA : run B ln.toInt.toNat aa1_f22.toInt.toNat b1 w1 l1 0 0 = run B ln.toInt.toNat 0 0 (fun _ => 0) 0 0 0 := by rw [← hrun, ← hr1, run_sk aa1_f3.toInt.toNat, eA]
                            have h6 := (jtf96.2.1 (by omega)).2
                            rw [← hRA, ← h6, run_sk aa1_f96.toInt.toNat]
                            have hs_ := rn_stop (lo := 32) (hi := 32) (B := B) (L := ln.toInt.toNat) aa1_f96.toInt.toNat
                            refine ⟨?_, fun z_ => absurd z_ (by omega)⟩
                            rw [rs_6 (by omega) (by omega)]; omega)⟩⟩) (Nat.le_of_ble_eq_true rfl) (Nat.le_of_ble_eq_true rfl) dX11_reads_109
      refine lv_iload_n hx hb dX11_reads_12 rfl (lv_at hl 1 rfl) ?_
      refine lv_bipush (v := 10) hx hb dX11_reads_13 (by decide) ?_
      refine lv_icmp_ge (tgt := 31) hx hb dX11_reads_15 (by decide) (fun c132 => ?_) (fun c132 => ?_)
      · have c133 : 10 ≤ v12_1.toInt := Int32.le_iff_toInt_le.mp c132
        have i134 : iv v12_1 10 10 := iv_Er c133 (iv_k (x := 10) (k := 10) rfl) iv12_1 (by decide)
        exact L31 201 ls f_12 H locs g12_dq_R g12_u0_3 g12_u0_4 (show 200 - g12_u0_3.toInt < _ by omega) (lv_cons hl 0 rfl (lv_nil hl)) h t_12 o_12 (iv_w ig12_u0_3 (by decide)) ig12_u0_4 k12_u0_2 k12_u0_1 k12_u0_5 k12_tq_R k12_dq_R k12_u0_3 k12_u0_4 (show ∃ (b : Int) (l : Nat) (w : Nat → Int), (∀ k : Nat, k < 8 → (g12_dq_R k).toInt = w k ∧ 0 ≤ w k ∧ w k ≤ 9) ∧ (b = 0 ∨ b = 1 ∨ b = 2) ∧ (b ≠ 0 → (rn 32 32 B ln.toInt.toNat (Int.toNat (g12_u0_3.toInt))) < ln.toInt.toNat ∧ B (rn 32 32 B ln.toInt.toNat (Int.toNat (g12_u0_3.toInt))) ≠ 59 ∧ (b = 1 → ¬ (48 ≤ B (rn 32 32 B ln.toInt.toNat (Int.toNat (g12_u0_3.toInt))) ∧ B (rn 32 32 B ln.toInt.toNat (Int.toNat (g12_u0_3.toInt))) ≤ 57))) ∧ (g12_dq_R 8 = 0 ∧ g12_dq_R 9 = 0) ∧ run B ln.toInt.toNat (Int.toNat (g12_u0_3.toInt)) b w l 0 0 = run B ln.toInt.toNat 0 0 (fun _ => 0) 0 0 0 from ⟨0, 0, fun _ => 0, fun k hk => (by rw [hv12_0 k, if_pos (by omega)]; exact ⟨rfl, Int.le_refl 0, by show (0 : Int) ≤ 9; decide⟩), Or.inl rfl, fun z_ => absurd rfl z_, ⟨by rw [hv12_0 8, if_pos (by omega)], by rw [hv12_0 9, if_pos (by omega)]⟩, congrArg (fun z_ => run B ln.toInt.toNat z_ 0 (fun _ => 0) 0 0 0) (by omega)⟩) (show g12_u0_3.toInt ≤ ln.toInt by omega)
      · have c135 : v12_1.toInt < 10 := Int32.lt_iff_toInt_lt.mp (iv_nle c132)
        have i136 : iv v12_1 0 9 := iv_Ll c135 iv12_1 (iv_k (x := 10) (k := 10) rfl) (by decide)
        refine lv_aload_n hx hb dX11_reads_18 rfl (lv_at hl 0 rfl) ?_
        refine t_getfd C h t_12 hu0 (by decide) wf_60 (v := .ref dq) k12_u0_5 fl_X11_13 dX11_reads_19 ?_
        refine lv_iload_n hx hb dX11_reads_22 rfl (lv_at hl 1 rfl) ?_
        refine lv_iconst (v := 0) hx hb dX11_reads_23 (by decide) ?_
        refine e_iast C h t_12 o_12 hdq (by decide) (by decide) wf_62 fw_62 k12_dq_R (iv_in i136 (by decide)) ⟨by decide, by decide⟩ dX11_reads_24 (fun R139 f137 erR139 H locs h tf137 of137 hq hn_ k138 => ?_)
        have k140 := atp.tg k12_u0_2 hq hu0 (by decide)
        have k141 := atp.tg k12_u0_1 hq hu0 (by decide)
        have k142 := atp.tg k12_u0_5 hq hu0 (by decide)
        have k143 := atp.tg k12_tq_R hq htq (by decide)
        have k145 := atp.tg k12_u0_3 hq hu0 (by decide)
        have k146 := atp.tg k12_u0_4 hq hu0 (by decide)
        refine i_inc hx hb dX11_reads_25 hl (k := 1) rfl i136 rfl (lo := 1) (hi := 10) (by decide) (by decide) (lv' := fun v => [(1, .int v), (0, .ref u0)]) (fun _ => rfl) (fun z147 ls ez147 mz147 iz147 hl => ?_)
        refine lv_goto (tgt := 12) hx hb dX11_reads_28 (by decide) ?_
        exact ih12 ls f137 H locs z147 R139 g12_u0_3 g12_u0_4 (show 10 - z147.toInt < _ by omega) (lv_cons hl 1 rfl (lv_cons hl 0 rfl (lv_nil hl))) h tf137 of137 (iv_w iz147 (by decide)) ig12_u0_3 ig12_u0_4 k140 k141 k142 k143 k138 k145 k146 (show ∀ k : Nat, R139 k = if (k : Int) < z147.toInt then 0 else rd k from (by
            intro k; rw [erR139]; by_cases q_ : k = v12_1.toInt.toNat
            · rw [upd_at q_]; (repeat' split) <;> first | rfl | (exfalso; omega) | (exact congrArg _ (by omega))
            · rw [upd_off q_, hv12_0 k]; (repeat' split) <;> first | rfl | (exfalso; omega) | (exact congrArg _ (by omega))))
  refine lv_aload_n hx hb dX11_reads_0 rfl (lv_at hl 0 rfl) ?_
  refine lv_iconst (v := 0) hx hb dX11_reads_1 (by decide) ?_
  refine t_put C h t o hu0 (by decide) (by decide) (by decide) wf_60 fw_60 (k := 3) rfl flw_X11_90 (Or.inr ⟨_, _, _, rfl, rfl⟩) (v := .int 0) rfl rfl ⟨_, rfl, ⟨by decide, by decide⟩⟩ dX11_reads_2 (fun f148 H locs h tf148 of148 hq ha_ hn_ hk_ => ?_)
  have k149 := hk_ 2 _ (by decide) k_u0_2
  have k151 := hk_ 1 _ (by decide) k_u0_1
  have k152 := hk_ 4 _ (by decide) k_u0_4
  have k153 := hk_ 5 _ (by decide) k_u0_5
  have k154 := atp.tg hRtq hq htq (by decide)
  have k155 := atp.tg hRdq hq hdq (by decide)
  have k156 := ha_
  refine lv_aload_n hx hb dX11_reads_5 rfl (lv_at hl 0 rfl) ?_
  refine lv_iconst (v := -1) hx hb dX11_reads_6 (by decide) ?_
  refine t_put C h tf148 of148 hu0 (by decide) (by decide) (by decide) wf_60 fw_60 (k := 4) rfl flw_X11_97 (Or.inr ⟨_, _, _, rfl, rfl⟩) (v := .int (-1)) rfl rfl ⟨_, rfl, ⟨by decide, by decide⟩⟩ dX11_reads_7 (fun f157 H locs h tf157 of157 hq ha_ hn_ hk_ => ?_)
  have k158 := hk_ 2 _ (by decide) k149
  have k159 := hk_ 1 _ (by decide) k151
  have k161 := hk_ 5 _ (by decide) k153
  have k162 := atp.tg k154 hq htq (by decide)
  have k163 := atp.tg k155 hq hdq (by decide)
  have k164 := hk_ 3 _ (by decide) k156
  have k165 := ha_
  refine lv_iconst (v := 0) hx hb dX11_reads_10 (by decide) ?_
  refine lv_istore_n (lv' := [(1, .int 0), (0, .ref u0)]) hx hb dX11_reads_11 rfl hl (by decide) rfl (fun ls hl => ?_)
  exact L12 11 ls f157 H locs 0 rd 0 (-1) (by decide) (lv_cons hl 1 rfl (lv_cons hl 0 rfl (lv_nil hl))) h tf157 of157 ⟨by decide, by decide⟩ ⟨by decide, by decide⟩ ⟨by decide, by decide⟩ k158 k159 k161 k162 k163 k164 k165 (show ∀ k : Nat, rd k = if (k : Int) < 0 then 0 else rd k from (by
      intro k; (repeat' split) <;> first | rfl | (exfalso; omega) | (exact congrArg _ (by omega))))
