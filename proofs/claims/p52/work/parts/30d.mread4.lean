theorem dX11_reads_0 : decode cX11_reads 0 = .ok (.aload_n 0, 1) := by decide +kernel
theorem dX11_reads_1 : decode cX11_reads 1 = .ok (.iconst 0, 1) := by decide +kernel
theorem dX11_reads_2 : decode cX11_reads 2 = .ok (.putfield 90, 3) := by decide +kernel
theorem dX11_reads_5 : decode cX11_reads 5 = .ok (.aload_n 0, 1) := by decide +kernel
theorem dX11_reads_6 : decode cX11_reads 6 = .ok (.iconst (-1), 1) := by decide +kernel
theorem dX11_reads_7 : decode cX11_reads 7 = .ok (.putfield 97, 3) := by decide +kernel
theorem dX11_reads_10 : decode cX11_reads 10 = .ok (.iconst 0, 1) := by decide +kernel
theorem dX11_reads_11 : decode cX11_reads 11 = .ok (.istore_n 1, 1) := by decide +kernel
theorem dX11_reads_12 : decode cX11_reads 12 = .ok (.iload_n 1, 1) := by decide +kernel
theorem dX11_reads_13 : decode cX11_reads 13 = .ok (.bipush 10, 2) := by decide +kernel
theorem dX11_reads_15 : decode cX11_reads 15 = .ok (.if_icmp .ge 16, 3) := by decide +kernel
theorem dX11_reads_18 : decode cX11_reads 18 = .ok (.aload_n 0, 1) := by decide +kernel
theorem dX11_reads_19 : decode cX11_reads 19 = .ok (.getfield 13, 3) := by decide +kernel
theorem dX11_reads_22 : decode cX11_reads 22 = .ok (.iload_n 1, 1) := by decide +kernel
theorem dX11_reads_23 : decode cX11_reads 23 = .ok (.iconst 0, 1) := by decide +kernel
theorem dX11_reads_24 : decode cX11_reads 24 = .ok (.iastore, 1) := by decide +kernel
theorem dX11_reads_25 : decode cX11_reads 25 = .ok (.iinc 1 1, 3) := by decide +kernel
theorem dX11_reads_28 : decode cX11_reads 28 = .ok (.goto (-16), 3) := by decide +kernel
theorem dX11_reads_31 : decode cX11_reads 31 = .ok (.aload_n 0, 1) := by decide +kernel
theorem dX11_reads_32 : decode cX11_reads 32 = .ok (.invokevirtual 146, 3) := by decide +kernel
theorem w_1553 : Cond.methodLink "QuarterWalksModel" 146 yX11_readsStep ∈ wAll := wIn 1553 (by decide +kernel) (by decide +kernel)
theorem w_39 : Cond.selects yX11_readsStep.cls yX11_readsStep yX11_readsStep ∈ wAll := wIn 39 (by decide +kernel) (by decide +kernel)
theorem mk_X11_readsStep : mk yX11_readsStep 0 := ⟨by decide +kernel, w_110⟩
theorem w_1555 : Cond.instanceMethod yX11_readsStep ∈ wAll := wIn 1555 (by decide +kernel) (by decide +kernel)
theorem w_1556 : Cond.code yX11_readsStep cX11_readsStep 4 none ∈ wAll := wIn 1556 (by decide +kernel) (by decide +kernel)
theorem dX11_reads_35 : decode cX11_reads 35 = .ok (.aload_n 0, 1) := by decide +kernel
theorem dX11_reads_36 : decode cX11_reads 36 = .ok (.getfield 97, 3) := by decide +kernel
theorem dX11_reads_39 : decode cX11_reads 39 = .ok (.iconst (-1), 1) := by decide +kernel
theorem dX11_reads_40 : decode cX11_reads 40 = .ok (.if_icmp .ne 20, 3) := by decide +kernel
theorem dX11_reads_60 : decode cX11_reads 60 = .ok (.aload_n 0, 1) := by decide +kernel
theorem dX11_reads_61 : decode cX11_reads 61 = .ok (.getfield 97, 3) := by decide +kernel
theorem dX11_reads_64 : decode cX11_reads 64 = .ok (.iconst (-1), 1) := by decide +kernel
theorem dX11_reads_65 : decode cX11_reads 65 = .ok (.if_icmp .ne 16, 3) := by decide +kernel
theorem dX11_reads_81 : decode cX11_reads 81 = .ok (.aload_n 0, 1) := by decide +kernel
theorem dX11_reads_82 : decode cX11_reads 82 = .ok (.getfield 97, 3) := by decide +kernel
theorem dX11_reads_85 : decode cX11_reads 85 = .ok (.iconst (-1), 1) := by decide +kernel
theorem dX11_reads_86 : decode cX11_reads 86 = .ok (.if_icmp .ne 19, 3) := by decide +kernel
theorem dX11_reads_105 : decode cX11_reads 105 = .ok (.aload_n 0, 1) := by decide +kernel
theorem dX11_reads_106 : decode cX11_reads 106 = .ok (.getfield 97, 3) := by decide +kernel
theorem dX11_reads_43 : decode cX11_reads 43 = .ok (.aload_n 0, 1) := by decide +kernel
theorem dX11_reads_44 : decode cX11_reads 44 = .ok (.invokevirtual 100, 3) := by decide +kernel
theorem dX11_reads_47 : decode cX11_reads 47 = .ok (.iconst (-1), 1) := by decide +kernel
theorem dX11_reads_48 : decode cX11_reads 48 = .ok (.if_icmp .eq 12, 3) := by decide +kernel
theorem dX11_reads_68 : decode cX11_reads 68 = .ok (.aload_n 0, 1) := by decide +kernel
theorem dX11_reads_69 : decode cX11_reads 69 = .ok (.invokevirtual 93, 3) := by decide +kernel
theorem dX11_reads_72 : decode cX11_reads 72 = .ok (.bipush 59, 2) := by decide +kernel
theorem dX11_reads_74 : decode cX11_reads 74 = .ok (.if_icmp .ne 7, 3) := by decide +kernel
theorem dX11_reads_89 : decode cX11_reads 89 = .ok (.aload_n 0, 1) := by decide +kernel
theorem dX11_reads_90 : decode cX11_reads 90 = .ok (.invokevirtual 100, 3) := by decide +kernel
theorem dX11_reads_93 : decode cX11_reads 93 = .ok (.iconst (-1), 1) := by decide +kernel
theorem dX11_reads_94 : decode cX11_reads 94 = .ok (.if_icmp .eq 11, 3) := by decide +kernel
theorem dX11_reads_97 : decode cX11_reads 97 = .ok (.aload_n 0, 1) := by decide +kernel
theorem dX11_reads_98 : decode cX11_reads 98 = .ok (.aload_n 0, 1) := by decide +kernel
theorem dX11_reads_99 : decode cX11_reads 99 = .ok (.getfield 90, 3) := by decide +kernel
theorem dX11_reads_102 : decode cX11_reads 102 = .ok (.invokevirtual 111, 3) := by decide +kernel
theorem dX11_reads_77 : decode cX11_reads 77 = .ok (.aload_n 0, 1) := by decide +kernel
theorem dX11_reads_78 : decode cX11_reads 78 = .ok (.invokevirtual 149, 3) := by decide +kernel
theorem w_1595 : Cond.methodLink "QuarterWalksModel" 149 yX11_readsStart ∈ wAll := wIn 1595 (by decide +kernel) (by decide +kernel)
theorem w_47 : Cond.selects yX11_readsStart.cls yX11_readsStart yX11_readsStart ∈ wAll := wIn 47 (by decide +kernel) (by decide +kernel)
theorem mk_X11_readsStart : mk yX11_readsStart 0 := ⟨by decide +kernel, w_110⟩
theorem w_1597 : Cond.instanceMethod yX11_readsStart ∈ wAll := wIn 1597 (by decide +kernel) (by decide +kernel)
theorem w_1598 : Cond.code yX11_readsStart cX11_readsStart 1 none ∈ wAll := wIn 1598 (by decide +kernel) (by decide +kernel)
theorem dX11_reads_51 : decode cX11_reads 51 = .ok (.aload_n 0, 1) := by decide +kernel
theorem dX11_reads_52 : decode cX11_reads 52 = .ok (.invokevirtual 93, 3) := by decide +kernel
theorem dX11_reads_55 : decode cX11_reads 55 = .ok (.bipush 59, 2) := by decide +kernel
theorem dX11_reads_57 : decode cX11_reads 57 = .ok (.if_icmp .ne (-26), 3) := by decide +kernel
theorem dX11_reads_109 : decode cX11_reads 109 = .ok (.ireturn, 1) := by decide +kernel
abbrev rm_s_X11_readsX : Room := { frames := 7, cells := 0, slots := 0, locals := 151 }
set_option maxRecDepth 100000 in
set_option maxHeartbeats 4000000 in
theorem s_X11_readsX (l : Launch) (D : va_G) (G : Nat → Nat) (b0 : Nat) (τ : Nat → Nat) (f : hM) (t : TI G 9 τ f) (u0 : Nat) (hu0 : τ u0 = 60) (ln : Int32) (hln : iv ln 0 200) (k_u0_2 : atp f u0 (fd 2 (.int ln))) (aa : Int32) (haa : iv aa 0 200) (k_u0_3 : atp f u0 (fd 3 (.int aa))) (tq : Nat) (htq : τ tq = 61) (k_u0_1 : atp f u0 (fd 1 (.ref tq))) (fa : Int32) (hfa : iv fa (-1) 200) (k_u0_4 : atp f u0 (fd 4 (.int fa))) (dq : Nat) (hdq : τ dq = 62) (k_u0_5 : atp f u0 (fd 5 (.ref dq))) (rt : Nat → Int32) (hRtq : atp f tq (eqc (.inl (G 0, 200, .inl rt)))) (rd : Nat → Int32) (hRdq : atp f dq (eqc (.inl (G 1, 10, .inl rd)))) (B : Nat → Int) (hB : ∀ k : Nat, (k : Int) < ln.toInt → (rt k).toInt = sg (B k) ∧ 0 ≤ B k ∧ B k ≤ 255)  : mI l yX11_reads cX11_reads 2 (.int) rm_s_X11_readsX D G b0 f [.ref u0] (fun r f1 => iv r (-1) 200 ∧ TI G 9 τ f1 ∧ Fr [60, 62, 60004, 60005] τ f f1 ∧ (∃ (aa1 : Int32) (fa1 : Int32) (rd1 : Nat → Int32), (atp f1 u0 (fd 3 (.int aa1)) ∧ iv aa1 0 200) ∧ (atp f1 u0 (fd 4 (.int fa1)) ∧ iv fa1 (-1) 200) ∧ atp f1 dq (eqc (.inl (G 1, 10, .inl rd1))) ∧ (r.toInt = (run B ln.toInt.toNat 0 0 (fun _ => 0) 0 0 0).1 ∧ (r.toInt = -1 → (∀ k : Nat, k < 8 → (rd1 k).toInt = (run B ln.toInt.toNat 0 0 (fun _ => 0) 0 0 0).2.1 k) ∧ (rd1 8).toInt = (run B ln.toInt.toNat 0 0 (fun _ => 0) 0 0 0).2.2.1 ∧ (rd1 9).toInt = (run B ln.toInt.toNat 0 0 (fun _ => 0) 0 0 0).2.2.2 ∧ ∀ k : Nat, k < 10 → iv (rd1 k) 0 9)))) := by
  refine met2 (own := RX11) (by decide) rfl (Nat.le_of_ble_eq_true rfl) ?_
  intro p e s m args below meth c ls Q hQ C hr hini hl h
  have hl : lv_has ls 2 [(0, .ref u0)] := hl
  obtain ⟨hx, hb, hml, hown, hts, hE0, hlk⟩ := id C
  have o := Fr.rf [60, 62, 60004, 60005] τ f
  have L12 : ∀ (n12 : Nat) (ls : Array Slot) (f_12 : hM) (H : Heap) (locs : List Loc) (v12_1 : Int32) (g12_dq_R : Nat → Int32) (g12_u0_3 : Int32) (g12_u0_4 : Int32), 10 - v12_1.toInt < (n12 : Int) → lv_has ls 2 [(0, .ref u0), (1, .int v12_1)] → hw D b0 s.heap f_12 H locs → TI G 9 τ f_12 → Fr [60, 62, 60004, 60005] τ f f_12 → iv v12_1 0 10 → iv g12_u0_3 0 0 → iv g12_u0_4 (-1) (-1) → atp f_12 u0 (fd 2 (.int ln)) → atp f_12 u0 (fd 1 (.ref tq)) → atp f_12 u0 (fd 5 (.ref dq)) → atp f_12 tq (eqc (.inl (G 0, 200, .inl rt))) → atp f_12 dq (eqc (.inl (G 1, 10, .inl g12_dq_R))) → atp f_12 u0 (fd 3 (.int g12_u0_3)) → atp f_12 u0 (fd 4 (.int g12_u0_4)) → (∀ k : Nat, g12_dq_R k = if (k : Int) < v12_1.toInt then 0 else rd k) → W p l e rm_s_X11_readsX s m args below meth c H locs 0 0 Q (F0 m 12 ls []) := by
    intro n12
    induction n12 with
    | zero => intro ls f_12 H locs v12_1 g12_dq_R g12_u0_3 g12_u0_4 hm12 hl h t_12 o_12 iv12_1 ig12_u0_3 ig12_u0_4 k12_u0_2 k12_u0_1 k12_u0_5 k12_tq_R k12_dq_R k12_u0_3 k12_u0_4 hv12_0; exact absurd hm12 (by omega)
    | succ n12 ih12 =>
      intro ls f_12 H locs v12_1 g12_dq_R g12_u0_3 g12_u0_4 hm12 hl h t_12 o_12 iv12_1 ig12_u0_3 ig12_u0_4 k12_u0_2 k12_u0_1 k12_u0_5 k12_tq_R k12_dq_R k12_u0_3 k12_u0_4 hv12_0
      have L31 : ∀ (n31 : Nat) (ls : Array Slot) (f_31 : hM) (H : Heap) (locs : List Loc) (g31_dq_R : Nat → Int32) (g31_u0_3 : Int32) (g31_u0_4 : Int32), 200 - g31_u0_3.toInt < (n31 : Int) → lv_has ls 2 [(0, .ref u0)] → hw D b0 s.heap f_31 H locs → TI G 9 τ f_31 → Fr [60, 62, 60004, 60005] τ f f_31 → iv g31_u0_3 0 200 → iv g31_u0_4 (-1) (-1) → atp f_31 u0 (fd 2 (.int ln)) → atp f_31 u0 (fd 1 (.ref tq)) → atp f_31 u0 (fd 5 (.ref dq)) → atp f_31 tq (eqc (.inl (G 0, 200, .inl rt))) → atp f_31 dq (eqc (.inl (G 1, 10, .inl g31_dq_R))) → atp f_31 u0 (fd 3 (.int g31_u0_3)) → atp f_31 u0 (fd 4 (.int g31_u0_4)) → (∃ (b : Int) (l : Nat) (w : Nat → Int), (∀ k : Nat, k < 8 → (g31_dq_R k).toInt = w k ∧ 0 ≤ w k ∧ w k ≤ 9) ∧ (b = 0 ∨ b = 1 ∨ b = 2) ∧ (b ≠ 0 → (rn 32 32 B ln.toInt.toNat (Int.toNat (g31_u0_3.toInt))) < ln.toInt.toNat ∧ B (rn 32 32 B ln.toInt.toNat (Int.toNat (g31_u0_3.toInt))) ≠ 59 ∧ (b = 1 → ¬ (48 ≤ B (rn 32 32 B ln.toInt.toNat (Int.toNat (g31_u0_3.toInt))) ∧ B (rn 32 32 B ln.toInt.toNat (Int.toNat (g31_u0_3.toInt))) ≤ 57))) ∧ (g31_dq_R 8 = 0 ∧ g31_dq_R 9 = 0) ∧ run B ln.toInt.toNat (Int.toNat (g31_u0_3.toInt)) b w l 0 0 = run B ln.toInt.toNat 0 0 (fun _ => 0) 0 0 0) → W p l e rm_s_X11_readsX s m args below meth c H locs 0 0 Q (F0 m 31 ls []) := by
        intro n31
        induction n31 with
        | zero => intro ls f_31 H locs g31_dq_R g31_u0_3 g31_u0_4 hm31 hl h t_31 o_31 ig31_u0_3 ig31_u0_4 k31_u0_2 k31_u0_1 k31_u0_5 k31_tq_R k31_dq_R k31_u0_3 k31_u0_4 hv31_0; exact absurd hm31 (by omega)
        | succ n31 ih31 =>
          intro ls f_31 H locs g31_dq_R g31_u0_3 g31_u0_4 hm31 hl h t_31 o_31 ig31_u0_3 ig31_u0_4 k31_u0_2 k31_u0_1 k31_u0_5 k31_tq_R k31_dq_R k31_u0_3 k31_u0_4 hv31_0
          obtain ⟨bb, lb, w, hw, hbb, hnx, ⟨h8a, h9a⟩, hrun⟩ := hv31_0
          refine lv_aload_n hx hb dX11_reads_31 rfl (lv_at hl 0 rfl) ?_
          obtain ⟨_, r1⟩ := t_rec t_31 hu0 (by decide) wf_60
          refine k_v (r_V C h hl (As := []) (rest := []) (s_X11_readsStepX l D G b0 τ f_31 t_31 u0 hu0 ln hln k31_u0_2 g31_u0_3 ig31_u0_3 k31_u0_3 tq htq k31_u0_1 g31_u0_4 ig31_u0_4 k31_u0_4 dq hdq k31_u0_5 rt k31_tq_R g31_dq_R k31_dq_R B hB bb lb 0 0 w hw hbb hnx) r1 (Cn := RX11) (T := TX11) (N := 32) rfl rfl mk_X11_readsStep w_1553 w_1555 w_39 w_1556 ⟨Nat.le_of_ble_eq_true rfl, Nat.le_of_ble_eq_true rfl⟩ rfl (Nat.le_of_ble_eq_true rfl) ⟨Nat.le_of_ble_eq_true rfl, Nat.le_of_ble_eq_true rfl⟩ rfl dX11_reads_32) h (fun f3 H locs p4 h => ?_)
          obtain ⟨tf3, ogf3, ⟨aa1_f3, fa1_f3, rd1_f3, ⟨kpu0_3f3, ipu0_3f3⟩, ⟨kpu0_4f3, ipu0_4f3⟩, kRdqf3, jtf3⟩⟩ := p4
          have of3 : Fr [60, 62, 60004, 60005] τ f f3 := Fr.tr o_31 ogf3 (by decide) (by decide)
          have k5 := atp.fk k31_u0_2 ogf3 hu0 (by decide) (by decide)
          have k6 := atp.fk k31_u0_1 ogf3 hu0 (by decide) (by decide)
          have k7 := atp.fk k31_u0_5 ogf3 hu0 (by decide) (by decide)
          have k8 := atp.fr k31_tq_R ogf3 htq (by decide)
          refine lv_aload_n hx hb dX11_reads_35 rfl (lv_at hl 0 rfl) ?_
          refine t_getfd C h tf3 hu0 (by decide) wf_60 (v := .int fa1_f3) kpu0_4f3 fl_X11_97 dX11_reads_36 ?_
          refine lv_iconst (v := -1) hx hb dX11_reads_39 (by decide) ?_
          refine lv_icmp_ne (tgt := 60) hx hb dX11_reads_40 (by decide) (fun c9 => ?_) (fun c9 => ?_)
          · have c10 : fa1_f3.toInt ≠ (-1) := fun z_ => c9 (Int32.toInt_inj.mp z_)
            have i11 : iv fa1_f3 0 200 := iv_Nl c10 ipu0_4f3 (by decide)
            refine lv_aload_n hx hb dX11_reads_60 rfl (lv_at hl 0 rfl) ?_
            refine t_getfd C h tf3 hu0 (by decide) wf_60 (v := .int fa1_f3) kpu0_4f3 fl_X11_97 dX11_reads_61 ?_
            refine lv_iconst (v := -1) hx hb dX11_reads_64 (by decide) ?_
            refine lv_icmp_ne (tgt := 81) hx hb dX11_reads_65 (by decide) (fun c14 => ?_) (fun c14 => ?_)
            · have c15 : fa1_f3.toInt ≠ (-1) := fun z_ => c14 (Int32.toInt_inj.mp z_)
              refine lv_aload_n hx hb dX11_reads_81 rfl (lv_at hl 0 rfl) ?_
              refine t_getfd C h tf3 hu0 (by decide) wf_60 (v := .int fa1_f3) kpu0_4f3 fl_X11_97 dX11_reads_82 ?_
              refine lv_iconst (v := -1) hx hb dX11_reads_85 (by decide) ?_
              refine lv_icmp_ne (tgt := 105) hx hb dX11_reads_86 (by decide) (fun c17 => ?_) (fun c17 => ?_)
              · have c18 : fa1_f3.toInt ≠ (-1) := fun z_ => c17 (Int32.toInt_inj.mp z_)
                refine lv_aload_n hx hb dX11_reads_105 rfl (lv_at hl 0 rfl) ?_
                refine t_getfd C h tf3 hu0 (by decide) wf_60 (v := .int fa1_f3) kpu0_4f3 fl_X11_97 dX11_reads_106 ?_
                exact u_iret C h hr hQ (⟨(iv_w i11 (by decide)), tf3, of3, ⟨aa1_f3, fa1_f3, rd1_f3, ⟨kpu0_3f3, ipu0_3f3⟩, ⟨kpu0_4f3, (iv_w i11 (by decide))⟩, kRdqf3, (by
                    have h6 := jtf3.2.2 (by omega)
                    rw [← hrun, h6]; exact ⟨rfl, fun z_ => absurd z_ (by omega)⟩)⟩⟩) (Nat.le_of_ble_eq_true rfl) (Nat.le_of_ble_eq_true rfl) dX11_reads_109
              · have c19 : fa1_f3.toInt = (-1) := congrArg Int32.toInt c17
                exact (iv_cq_ c19 i11 (iv_k (x := (-1)) (k := (-1)) rfl) (by decide)).elim
            · have c16 : fa1_f3.toInt = (-1) := congrArg Int32.toInt c14
              exact (iv_cq_ c16 i11 (iv_k (x := (-1)) (k := (-1)) rfl) (by decide)).elim
          · have c12 : fa1_f3.toInt = (-1) := congrArg Int32.toInt c9
            have i13 : iv fa1_f3 (-1) (-1) := iv_Q c12 ipu0_4f3 (iv_k (x := (-1)) (k := (-1)) rfl) (by decide)
            refine lv_aload_n hx hb dX11_reads_43 rfl (lv_at hl 0 rfl) ?_
            obtain ⟨_, r20⟩ := t_rec tf3 hu0 (by decide) wf_60
            refine k_i (r_V C h hl (As := []) (rest := []) (s_X11_lookX l D G b0 τ f3 tf3 u0 hu0 ln hln k5 aa1_f3 ipu0_3f3 kpu0_3f3 tq htq k6 rt k8 B hB) r20 (Cn := RX11) (T := TX11) (N := 32) rfl rfl mk_X11_look w_1557 w_1559 w_40 w_1560 ⟨Nat.le_of_ble_eq_true rfl, Nat.le_of_ble_eq_true rfl⟩ rfl (Nat.le_of_ble_eq_true rfl) ⟨Nat.le_of_ble_eq_true rfl, Nat.le_of_ble_eq_true rfl⟩ rfl dX11_reads_44) h (fun r21 f22 H locs p23 h => ?_)
            obtain ⟨ir21, tf22, ogf22, x0r21, ⟨aa1_f22, kpu0_3f22, ipu0_3f22, rpu0_3f22⟩⟩ := p23
            have of22 : Fr [60, 62, 60004, 60005] τ f f22 := Fr.tr of3 ogf22 (by decide) (by decide)
            have k24 := atp.fk k5 ogf22 hu0 (by decide) (by decide)
            have k25 := atp.fk k6 ogf22 hu0 (by decide) (by decide)
            have k26 := atp.fk k7 ogf22 hu0 (by decide) (by decide)
            have k27 := atp.fr k8 ogf22 htq (by decide)
            have k28 := atp.fk kpu0_4f3 ogf22 hu0 (by decide) (by decide)
            have k29 := atp.fr kRdqf3 ogf22 hdq (by decide)
            refine lv_iconst (v := -1) hx hb dX11_reads_47 (by decide) ?_
            refine lv_icmp_eq (tgt := 60) hx hb dX11_reads_48 (by decide) (fun c30 => ?_) (fun c30 => ?_)
            · have c31 : r21.toInt = (-1) := congrArg Int32.toInt c30
              have i32 : iv r21 (-1) (-1) := iv_Q c31 ir21 (iv_k (x := (-1)) (k := (-1)) rfl) (by decide)
              refine lv_aload_n hx hb dX11_reads_60 rfl (lv_at hl 0 rfl) ?_
              refine t_getfd C h tf22 hu0 (by decide) wf_60 (v := .int fa1_f3) k28 fl_X11_97 dX11_reads_61 ?_
              refine lv_iconst (v := -1) hx hb dX11_reads_64 (by decide) ?_
              refine lv_icmp_ne (tgt := 81) hx hb dX11_reads_65 (by decide) (fun c35 => ?_) (fun c35 => ?_)
              · have c36 : fa1_f3.toInt ≠ (-1) := fun z_ => c35 (Int32.toInt_inj.mp z_)
                exact (iv_cn_ c36 i13 (iv_k (x := (-1)) (k := (-1)) rfl) (by decide)).elim
              · have c37 : fa1_f3.toInt = (-1) := congrArg Int32.toInt c35
                refine lv_aload_n hx hb dX11_reads_68 rfl (lv_at hl 0 rfl) ?_
                obtain ⟨_, r38⟩ := t_rec tf22 hu0 (by decide) wf_60
                refine k_i (r_V C h hl (As := []) (rest := []) (s_X11_hereX l D G b0 τ f22 tf22 u0 hu0 ln hln k24 aa1_f22 ipu0_3f22 kpu0_3f22 tq htq k25 rt k27 B hB) r38 (Cn := RX11) (T := TX11) (N := 32) rfl rfl mk_X11_here w_1561 w_1563 w_41 w_1564 ⟨Nat.le_of_ble_eq_true rfl, Nat.le_of_ble_eq_true rfl⟩ rfl (Nat.le_of_ble_eq_true rfl) ⟨Nat.le_of_ble_eq_true rfl, Nat.le_of_ble_eq_true rfl⟩ rfl dX11_reads_69) h (fun r39 f40 H locs p41 h => ?_)
                obtain ⟨ir39, tf40, ogf40, x0r39⟩ := p41
                have egf40 := Fr.nil2 ogf40
                subst egf40
                refine lv_bipush (v := 59) hx hb dX11_reads_72 (by decide) ?_
                refine lv_icmp_ne (tgt := 81) hx hb dX11_reads_74 (by decide) (fun c42 => ?_) (fun c42 => ?_)
                · have c43 : r39.toInt ≠ 59 := fun z_ => c42 (Int32.toInt_inj.mp z_)
                  refine lv_aload_n hx hb dX11_reads_81 rfl (lv_at hl 0 rfl) ?_
                  refine t_getfd C h tf22 hu0 (by decide) wf_60 (v := .int fa1_f3) k28 fl_X11_97 dX11_reads_82 ?_
                  refine lv_iconst (v := -1) hx hb dX11_reads_85 (by decide) ?_
                  refine lv_icmp_ne (tgt := 105) hx hb dX11_reads_86 (by decide) (fun c46 => ?_) (fun c46 => ?_)
                  · have c47 : fa1_f3.toInt ≠ (-1) := fun z_ => c46 (Int32.toInt_inj.mp z_)
                    exact (iv_cn_ c47 i13 (iv_k (x := (-1)) (k := (-1)) rfl) (by decide)).elim
                  · have c48 : fa1_f3.toInt = (-1) := congrArg Int32.toInt c46
                    refine lv_aload_n hx hb dX11_reads_89 rfl (lv_at hl 0 rfl) ?_
                    obtain ⟨_, r49⟩ := t_rec tf22 hu0 (by decide) wf_60
                    refine k_i (r_V C h hl (As := []) (rest := []) (s_X11_lookX l D G b0 τ f22 tf22 u0 hu0 ln hln k24 aa1_f22 ipu0_3f22 kpu0_3f22 tq htq k25 rt k27 B hB) r49 (Cn := RX11) (T := TX11) (N := 32) rfl rfl mk_X11_look w_1557 w_1559 w_40 w_1560 ⟨Nat.le_of_ble_eq_true rfl, Nat.le_of_ble_eq_true rfl⟩ rfl (Nat.le_of_ble_eq_true rfl) ⟨Nat.le_of_ble_eq_true rfl, Nat.le_of_ble_eq_true rfl⟩ rfl dX11_reads_90) h (fun r50 f51 H locs p52 h => ?_)
                    obtain ⟨ir50, tf51, ogf51, x0r50, ⟨aa1_f51, kpu0_3f51, ipu0_3f51, rpu0_3f51⟩⟩ := p52
                    have of51 : Fr [60, 62, 60004, 60005] τ f f51 := Fr.tr of22 ogf51 (by decide) (by decide)
                    have k53 := atp.fk k24 ogf51 hu0 (by decide) (by decide)
                    have k54 := atp.fk k25 ogf51 hu0 (by decide) (by decide)
                    have k55 := atp.fk k26 ogf51 hu0 (by decide) (by decide)
                    have k56 := atp.fr k27 ogf51 htq (by decide)
                    have k57 := atp.fk k28 ogf51 hu0 (by decide) (by decide)
                    have k58 := atp.fr k29 ogf51 hdq (by decide)
                    refine lv_iconst (v := -1) hx hb dX11_reads_93 (by decide) ?_
                    refine lv_icmp_eq (tgt := 105) hx hb dX11_reads_94 (by decide) (fun c59 => ?_) (fun c59 => ?_)
                    · have c60 : r50.toInt = (-1) := congrArg Int32.toInt c59
                      have i61 : iv r50 (-1) (-1) := iv_Q c60 ir50 (iv_k (x := (-1)) (k := (-1)) rfl) (by decide)
                      refine lv_aload_n hx hb dX11_reads_105 rfl (lv_at hl 0 rfl) ?_
                      refine t_getfd C h tf51 hu0 (by decide) wf_60 (v := .int fa1_f3) k57 fl_X11_97 dX11_reads_106 ?_
                      exact u_iret C h hr hQ (⟨(iv_w i13 (by decide)), tf51, of51, ⟨aa1_f51, fa1_f3, rd1_f3, ⟨kpu0_3f51, ipu0_3f51⟩, ⟨k57, (iv_w i13 (by decide))⟩, k58, (by
                          obtain ⟨h8_, hok_, -⟩ := jtf3
                          obtain ⟨hlt_, b1, l1, w1, hw1, hb1, hd1, hr1⟩ := hok_ (by omega)
                          rw [← hrun, ← hr1, run_sk aa1_f3.toInt.toNat, rs_end (by omega) (by omega)]
                          have e8 := (h8_ 8 (by decide)).trans h8a
                          have e9 := (h8_ 9 (by decide)).trans h9a
                          refine ⟨by show _ = (-1 : Int); omega, fun _ => ⟨fun k hk => (hw1 k hk).1, by rw [e8]; rfl, by rw [e9]; rfl, fun k hk => ?_⟩⟩
                          rcases (by omega : k < 8 ∨ k = 8 ∨ k = 9) with q_ | q_ | q_
                          · have := hw1 k q_; omega
                          · rw [q_, e8]; exact ⟨by decide, by decide⟩
                          · rw [q_, e9]; exact ⟨by decide, by decide⟩)⟩⟩) (Nat.le_of_ble_eq_true rfl) (Nat.le_of_ble_eq_true rfl) dX11_reads_109
                    · have c62 : r50.toInt ≠ (-1) := fun z_ => c59 (Int32.toInt_inj.mp z_)
                      have i63 : iv r50 0 255 := iv_Nl c62 ir50 (by decide)
                      refine lv_aload_n hx hb dX11_reads_97 rfl (lv_at hl 0 rfl) ?_
                      refine lv_aload_n hx hb dX11_reads_98 rfl (lv_at hl 0 rfl) ?_
                      refine t_getfd C h tf51 hu0 (by decide) wf_60 (v := .int aa1_f51) kpu0_3f51 fl_X11_90 dX11_reads_99 ?_
                      obtain ⟨_, r64⟩ := t_rec tf51 hu0 (by decide) wf_60
                      refine k_v (r_V C h hl (As := [.int aa1_f51]) (rest := []) (s_X11_failsX l D G b0 τ f51 tf51 u0 hu0 aa1_f51 ipu0_3f51 fa1_f3 (iv_w i13 (by decide)) k57) r64 (Cn := RX11) (T := TX11) (N := 32) rfl rfl mk_X11_fails w_1583 w_1585 w_44 w_1586 ⟨Nat.le_of_ble_eq_true rfl, Nat.le_of_ble_eq_true rfl⟩ rfl (Nat.le_of_ble_eq_true rfl) ⟨Nat.le_of_ble_eq_true rfl, Nat.le_of_ble_eq_true rfl⟩ rfl dX11_reads_102) h (fun f66 H locs p67 h => ?_)
                      obtain ⟨tf66, ogf66, ⟨fa1_f66, kpu0_4f66, ipu0_4f66, rpu0_4f66⟩⟩ := p67
                      have of66 : Fr [60, 62, 60004, 60005] τ f f66 := Fr.tr of51 ogf66 (by decide) (by decide)
                      have k68 := atp.fk k53 ogf66 hu0 (by decide) (by decide)
                      have k69 := atp.fk k54 ogf66 hu0 (by decide) (by decide)
                      have k70 := atp.fk k55 ogf66 hu0 (by decide) (by decide)
                      have k71 := atp.fr k56 ogf66 htq (by decide)
                      have k72 := atp.fr k58 ogf66 hdq (by decide)
                      have k73 := atp.fk kpu0_3f51 ogf66 hu0 (by decide) (by decide)
                      refine lv_aload_n hx hb dX11_reads_105 rfl (lv_at hl 0 rfl) ?_
                      refine t_getfd C h tf66 hu0 (by decide) wf_60 (v := .int fa1_f66) kpu0_4f66 fl_X11_97 dX11_reads_106 ?_
                      exact u_iret C h hr hQ (⟨ipu0_4f66, tf66, of66, ⟨aa1_f51, fa1_f66, rd1_f3, ⟨k73, ipu0_3f51⟩, ⟨kpu0_4f66, ipu0_4f66⟩, k72, (by
                          obtain ⟨h8_, hok_, -⟩ := jtf3
                          obtain ⟨hlt_, b1, l1, w1, hw1, hb1, hd1, hr1⟩ := hok_ (by omega)
                          rw [← hrun, ← hr1, run_sk aa1_f3.toInt.toNat, rs_end (by omega) (by omega)]
                          have e8 := (h8_ 8 (by decide)).trans h8a
                          have e9 := (h8_ 9 (by decide)).trans h9a
                          refine ⟨by show _ = (-1 : Int); omega, fun _ => ⟨fun k hk => (hw1 k hk).1, by rw [e8]; rfl, by rw [e9]; rfl, fun k hk => ?_⟩⟩
                          rcases (by omega : k < 8 ∨ k = 8 ∨ k = 9) with q_ | q_ | q_
                          · have := hw1 k q_; omega
                          · rw [q_, e8]; exact ⟨by decide, by decide⟩
                          · rw [q_, e9]; exact ⟨by decide, by decide⟩)⟩⟩) (Nat.le_of_ble_eq_true rfl) (Nat.le_of_ble_eq_true rfl) dX11_reads_109
                · have c44 : r39.toInt = 59 := congrArg Int32.toInt c42
                  have i45 : iv r39 59 59 := iv_Q c44 ir39 (iv_k (x := 59) (k := 59) rfl) (by decide)
                  refine lv_aload_n hx hb dX11_reads_77 rfl (lv_at hl 0 rfl) ?_
                  obtain ⟨h8_, hok_, -⟩ := jtf3
                  obtain ⟨hlt_, b1, l1, w1, hw1, hb1, hd1, hr1⟩ := hok_ (by omega)
                  have eA : aa1_f22.toInt.toNat = (rn 32 32 B ln.toInt.toNat aa1_f3.toInt.toNat) := by omega
                  have i74 : iv aa1_f22 0 199 := ⟨by omega, by omega⟩
                  obtain ⟨_, r75⟩ := t_rec tf22 hu0 (by decide) wf_60
                  refine k_v (r_V C h hl (As := []) (rest := []) (s_X11_readsStartX l D G b0 τ f22 tf22 u0 hu0 ln hln k24 aa1_f22 i74 kpu0_3f22 tq htq k25 fa1_f3 i13 k28 dq hdq k26 rt k27 rd1_f3 k29 B hB b1 l1 0 0 w1 hb1 (by omega) (by omega)) r75 (Cn := RX11) (T := TX11) (N := 32) rfl rfl mk_X11_readsStart w_1595 w_1597 w_47 w_1598 ⟨Nat.le_of_ble_eq_true rfl, Nat.le_of_ble_eq_true rfl⟩ rfl (Nat.le_of_ble_eq_true rfl) ⟨Nat.le_of_ble_eq_true rfl, Nat.le_of_ble_eq_true rfl⟩ rfl dX11_reads_78) h (fun f77 H locs p78 h => ?_)
                  obtain ⟨tf77, ogf77, ⟨aa1_f77, fa1_f77, rd1_f77, ⟨kpu0_3f77, ipu0_3f77⟩, ⟨kpu0_4f77, ipu0_4f77⟩, kRdqf77, jtf77⟩⟩ := p78
                  have of77 : Fr [60, 62, 60004, 60005] τ f f77 := Fr.tr of22 ogf77 (by decide) (by decide)
                  have k79 := atp.fk k24 ogf77 hu0 (by decide) (by decide)
                  have k80 := atp.fk k25 ogf77 hu0 (by decide) (by decide)
                  have k81 := atp.fk k26 ogf77 hu0 (by decide) (by decide)
                  have k82 := atp.fr k27 ogf77 htq (by decide)
                  refine lv_aload_n hx hb dX11_reads_81 rfl (lv_at hl 0 rfl) ?_
                  refine t_getfd C h tf77 hu0 (by decide) wf_60 (v := .int fa1_f77) kpu0_4f77 fl_X11_97 dX11_reads_82 ?_
                  refine lv_iconst (v := -1) hx hb dX11_reads_85 (by decide) ?_
                  refine lv_icmp_ne (tgt := 105) hx hb dX11_reads_86 (by decide) (fun c83 => ?_) (fun c83 => ?_)
                  · have c84 : fa1_f77.toInt ≠ (-1) := fun z_ => c83 (Int32.toInt_inj.mp z_)
                    have i85 : iv fa1_f77 0 200 := iv_Nl c84 ipu0_4f77 (by decide)
                    refine lv_aload_n hx hb dX11_reads_105 rfl (lv_at hl 0 rfl) ?_
                    refine t_getfd C h tf77 hu0 (by decide) wf_60 (v := .int fa1_f77) kpu0_4f77 fl_X11_97 dX11_reads_106 ?_
                    exact u_iret C h hr hQ (⟨(iv_w i85 (by decide)), tf77, of77, ⟨aa1_f77, fa1_f77, rd1_f77, ⟨kpu0_3f77, ipu0_3f77⟩, ⟨kpu0_4f77, (iv_w i85 (by decide))⟩, kRdqf77, (by
                        have hRA : run B ln.toInt.toNat aa1_f22.toInt.toNat b1 w1 l1 0 0 = run B ln.toInt.toNat 0 0 (fun _ => 0) 0 0 0 := by rw [← hrun, ← hr1, run_sk aa1_f3.toInt.toNat, eA]
                        rw [← hRA]
                        have h6 := jtf77.2.2 (by omega)
                        rw [h6]; exact ⟨rfl, fun z_ => absurd z_ (by omega)⟩)⟩⟩) (Nat.le_of_ble_eq_true rfl) (Nat.le_of_ble_eq_true rfl) dX11_reads_109
                  · have c86 : fa1_f77.toInt = (-1) := congrArg Int32.toInt c83
                    have i87 : iv fa1_f77 (-1) (-1) := iv_Q c86 ipu0_4f77 (iv_k (x := (-1)) (k := (-1)) rfl) (by decide)
                    refine lv_aload_n hx hb dX11_reads_89 rfl (lv_at hl 0 rfl) ?_
                    obtain ⟨_, r88⟩ := t_rec tf77 hu0 (by decide) wf_60
                    refine k_i (r_V C h hl (As := []) (rest := []) (s_X11_lookX l D G b0 τ f77 tf77 u0 hu0 ln hln k79 aa1_f77 ipu0_3f77 kpu0_3f77 tq htq k80 rt k82 B hB) r88 (Cn := RX11) (T := TX11) (N := 32) rfl rfl mk_X11_look w_1557 w_1559 w_40 w_1560 ⟨Nat.le_of_ble_eq_true rfl, Nat.le_of_ble_eq_true rfl⟩ rfl (Nat.le_of_ble_eq_true rfl) ⟨Nat.le_of_ble_eq_true rfl, Nat.le_of_ble_eq_true rfl⟩ rfl dX11_reads_90) h (fun r89 f90 H locs p91 h => ?_)
                    obtain ⟨ir89, tf90, ogf90, x0r89, ⟨aa1_f90, kpu0_3f90, ipu0_3f90, rpu0_3f90⟩⟩ := p91
                    have of90 : Fr [60, 62, 60004, 60005] τ f f90 := Fr.tr of77 ogf90 (by decide) (by decide)
                    have k92 := atp.fk k79 ogf90 hu0 (by decide) (by decide)
                    have k93 := atp.fk k80 ogf90 hu0 (by decide) (by decide)
                    have k94 := atp.fk k81 ogf90 hu0 (by decide) (by decide)
                    have k95 := atp.fr k82 ogf90 htq (by decide)
                    have k96 := atp.fk kpu0_4f77 ogf90 hu0 (by decide) (by decide)
                    have k97 := atp.fr kRdqf77 ogf90 hdq (by decide)
                    refine lv_iconst (v := -1) hx hb dX11_reads_93 (by decide) ?_
                    refine lv_icmp_eq (tgt := 105) hx hb dX11_reads_94 (by decide) (fun c98 => ?_) (fun c98 => ?_)
                    · have c99 : r89.toInt = (-1) := congrArg Int32.toInt c98
                      have i100 : iv r89 (-1) (-1) := iv_Q c99 ir89 (iv_k (x := (-1)) (k := (-1)) rfl) (by decide)
                      refine lv_aload_n hx hb dX11_reads_105 rfl (lv_at hl 0 rfl) ?_
                      refine t_getfd C h tf90 hu0 (by decide) wf_60 (v := .int fa1_f77) k96 fl_X11_97 dX11_reads_106 ?_
                      exact u_iret C h hr hQ (⟨(iv_w i87 (by decide)), tf90, of90, ⟨aa1_f90, fa1_f77, rd1_f77, ⟨kpu0_3f90, ipu0_3f90⟩, ⟨k96, (iv_w i87 (by decide))⟩, k97, (by
                          have hRA : run B ln.toInt.toNat aa1_f22.toInt.toNat b1 w1 l1 0 0 = run B ln.toInt.toNat 0 0 (fun _ => 0) 0 0 0 := by rw [← hrun, ← hr1, run_sk aa1_f3.toInt.toNat, eA]
                          have h6 := jtf77.2.1 (by omega)
                          have hk8 := jtf77.1
                          rw [← hRA, ← h6.2, run_sk aa1_f77.toInt.toNat, rs_end (by omega) (by omega)]
                          refine ⟨by show _ = (-1 : Int); omega, fun _ => ⟨fun k hk => ?_, rfl, rfl, fun k hk => ?_⟩⟩
                          · rw [hk8 k hk]; exact (hw1 k hk).1
                          · rcases (by omega : k < 8 ∨ k = 8 ∨ k = 9) with q_ | q_ | q_
                            · rw [hk8 k q_]; have := hw1 k q_; omega
                            · rw [q_]; exact h6.1.1
                            · rw [q_]; exact h6.1.2)⟩⟩) (Nat.le_of_ble_eq_true rfl) (Nat.le_of_ble_eq_true rfl) dX11_reads_109
                    · have c101 : r89.toInt ≠ (-1) := fun z_ => c98 (Int32.toInt_inj.mp z_)
                      have i102 : iv r89 0 255 := iv_Nl c101 ir89 (by decide)
                      refine lv_aload_n hx hb dX11_reads_97 rfl (lv_at hl 0 rfl) ?_
                      refine lv_aload_n hx hb dX11_reads_98 rfl (lv_at hl 0 rfl) ?_
                      refine t_getfd C h tf90 hu0 (by decide) wf_60 (v := .int aa1_f90) kpu0_3f90 fl_X11_90 dX11_reads_99 ?_
                      obtain ⟨_, r103⟩ := t_rec tf90 hu0 (by decide) wf_60
                      refine k_v (r_V C h hl (As := [.int aa1_f90]) (rest := []) (s_X11_failsX l D G b0 τ f90 tf90 u0 hu0 aa1_f90 ipu0_3f90 fa1_f77 (iv_w i87 (by decide)) k96) r103 (Cn := RX11) (T := TX11) (N := 32) rfl rfl mk_X11_fails w_1583 w_1585 w_44 w_1586 ⟨Nat.le_of_ble_eq_true rfl, Nat.le_of_ble_eq_true rfl⟩ rfl (Nat.le_of_ble_eq_true rfl) ⟨Nat.le_of_ble_eq_true rfl, Nat.le_of_ble_eq_true rfl⟩ rfl dX11_reads_102) h (fun f105 H locs p106 h => ?_)
                      obtain ⟨tf105, ogf105, ⟨fa1_f105, kpu0_4f105, ipu0_4f105, rpu0_4f105⟩⟩ := p106
                      have of105 : Fr [60, 62, 60004, 60005] τ f f105 := Fr.tr of90 ogf105 (by decide) (by decide)
                      have k107 := atp.fk k92 ogf105 hu0 (by decide) (by decide)
                      have k108 := atp.fk k93 ogf105 hu0 (by decide) (by decide)
                      have k109 := atp.fk k94 ogf105 hu0 (by decide) (by decide)
                      have k110 := atp.fr k95 ogf105 htq (by decide)
                      have k111 := atp.fr k97 ogf105 hdq (by decide)
                      have k112 := atp.fk kpu0_3f90 ogf105 hu0 (by decide) (by decide)
                      refine lv_aload_n hx hb dX11_reads_105 rfl (lv_at hl 0 rfl) ?_
                      refine t_getfd C h tf105 hu0 (by decide) wf_60 (v := .int fa1_f105) kpu0_4f105 fl_X11_97 dX11_reads_106 ?_
                      exact u_iret C h hr hQ (⟨ipu0_4f105, tf105, of105, ⟨aa1_f90, fa1_f105, rd1_f77, ⟨k112, ipu0_3f90⟩, ⟨kpu0_4f105, ipu0_4f105⟩, k111, (by
                          have hRA : run B ln.toInt.toNat aa1_f22.toInt.toNat b1 w1 l1 0 0 = run B ln.toInt.toNat 0 0 (fun _ => 0) 0 0 0 := by rw [← hrun, ← hr1, run_sk aa1_f3.toInt.toNat, eA]
                          have h6 := (jtf77.2.1 (by omega)).2
                          rw [← hRA, ← h6, run_sk aa1_f77.toInt.toNat]
                          have hs_ := rn_stop (lo := 32) (hi := 32) (B := B) (L := ln.toInt.toNat) aa1_f77.toInt.toNat
                          refine ⟨?_, fun z_ => absurd z_ (by omega)⟩
                          rw [rs_6 (by omega) (by omega)]; omega)⟩⟩) (Nat.le_of_ble_eq_true rfl) (Nat.le_of_ble_eq_true rfl) dX11_reads_109
            · have c33 : r21.toInt ≠ (-1) := fun z_ => c30 (Int32.toInt_inj.mp z_)
              have i34 : iv r21 0 255 := iv_Nl c33 ir21 (by decide)
              refine lv_aload_n hx hb dX11_reads_51 rfl (lv_at hl 0 rfl) ?_
              obtain ⟨_, r113⟩ := t_rec tf22 hu0 (by decide) wf_60
              refine k_i (r_V C h hl (As := []) (rest := []) (s_X11_hereX l D G b0 τ f22 tf22 u0 hu0 ln hln k24 aa1_f22 ipu0_3f22 kpu0_3f22 tq htq k25 rt k27 B hB) r113 (Cn := RX11) (T := TX11) (N := 32) rfl rfl mk_X11_here w_1561 w_1563 w_41 w_1564 ⟨Nat.le_of_ble_eq_true rfl, Nat.le_of_ble_eq_true rfl⟩ rfl (Nat.le_of_ble_eq_true rfl) ⟨Nat.le_of_ble_eq_true rfl, Nat.le_of_ble_eq_true rfl⟩ rfl dX11_reads_52) h (fun r114 f115 H locs p116 h => ?_)
              obtain ⟨ir114, tf115, ogf115, x0r114⟩ := p116
              have egf115 := Fr.nil2 ogf115
              subst egf115
              refine lv_bipush (v := 59) hx hb dX11_reads_55 (by decide) ?_
              refine lv_icmp_ne (tgt := 31) hx hb dX11_reads_57 (by decide) (fun c117 => ?_) (fun c117 => ?_)
              · have c118 : r114.toInt ≠ 59 := fun z_ => c117 (Int32.toInt_inj.mp z_)
                exact ih31 ls f22 H locs rd1_f3 aa1_f22 fa1_f3 (show 200 - aa1_f22.toInt < _ by omega) (lv_cons hl 0 rfl (lv_nil hl)) h tf22 of22 ipu0_3f22 i13 k24 k25 k26 k27 k29 kpu0_3f22 k28 (show ∃ (b : Int) (l : Nat) (w : Nat → Int), (∀ k : Nat, k < 8 → (rd1_f3 k).toInt = w k ∧ 0 ≤ w k ∧ w k ≤ 9) ∧ (b = 0 ∨ b = 1 ∨ b = 2) ∧ (b ≠ 0 → (rn 32 32 B ln.toInt.toNat (Int.toNat (aa1_f22.toInt))) < ln.toInt.toNat ∧ B (rn 32 32 B ln.toInt.toNat (Int.toNat (aa1_f22.toInt))) ≠ 59 ∧ (b = 1 → ¬ (48 ≤ B (rn 32 32 B ln.toInt.toNat (Int.toNat (aa1_f22.toInt))) ∧ B (rn 32 32 B ln.toInt.toNat (Int.toNat (aa1_f22.toInt))) ≤ 57))) ∧ (rd1_f3 8 = 0 ∧ rd1_f3 9 = 0) ∧ run B ln.toInt.toNat (Int.toNat (aa1_f22.toInt)) b w l 0 0 = run B ln.toInt.toNat 0 0 (fun _ => 0) 0 0 0 from (by
                    obtain ⟨h8_, hok_, -⟩ := jtf3
                    obtain ⟨hlt_, b1, l1, w1, hw1, hb1, hd1, hr1⟩ := hok_ (by omega)
                    have eA : aa1_f22.toInt.toNat = (rn 32 32 B ln.toInt.toNat aa1_f3.toInt.toNat) := by omega
                    have eB : (rn 32 32 B ln.toInt.toNat aa1_f22.toInt.toNat) = (rn 32 32 B ln.toInt.toNat aa1_f3.toInt.toNat) := by rw [eA]; exact rn_rn _
                    have eC : rn 32 32 B ln.toInt.toNat aa1_f22.toInt.toNat = aa1_f22.toInt.toNat := eB.trans eA.symm
                    refine ⟨b1, l1, w1, hw1, Or.inr hb1, fun _ => ?_, ⟨(h8_ 8 (by decide)).trans h8a, (h8_ 9 (by decide)).trans h9a⟩, ?_⟩
                    · rw [show Int.toNat aa1_f22.toInt = aa1_f22.toInt.toNat from rfl, eC]; refine ⟨by omega, by omega, fun z_ q_ => hd1 z_ ?_⟩; rw [← eA]; exact ⟨by omega, q_⟩
                    · rw [show Int.toNat aa1_f22.toInt = (rn 32 32 B ln.toInt.toNat aa1_f3.toInt.toNat) from eA, ← run_sk, hr1]; exact hrun))
              · have c119 : r114.toInt = 59 := congrArg Int32.toInt c117
                have i120 : iv r114 59 59 := iv_Q c119 ir114 (iv_k (x := 59) (k := 59) rfl) (by decide)
                refine lv_aload_n hx hb dX11_reads_60 rfl (lv_at hl 0 rfl) ?_
                refine t_getfd C h tf22 hu0 (by decide) wf_60 (v := .int fa1_f3) k28 fl_X11_97 dX11_reads_61 ?_
                refine lv_iconst (v := -1) hx hb dX11_reads_64 (by decide) ?_
                refine lv_icmp_ne (tgt := 81) hx hb dX11_reads_65 (by decide) (fun c121 => ?_) (fun c121 => ?_)
                · have c122 : fa1_f3.toInt ≠ (-1) := fun z_ => c121 (Int32.toInt_inj.mp z_)
                  exact (iv_cn_ c122 i13 (iv_k (x := (-1)) (k := (-1)) rfl) (by decide)).elim
                · have c123 : fa1_f3.toInt = (-1) := congrArg Int32.toInt c121
                  refine lv_aload_n hx hb dX11_reads_68 rfl (lv_at hl 0 rfl) ?_
                  obtain ⟨_, r124⟩ := t_rec tf22 hu0 (by decide) wf_60
                  refine k_i (r_V C h hl (As := []) (rest := []) (s_X11_hereX l D G b0 τ f22 tf22 u0 hu0 ln hln k24 aa1_f22 ipu0_3f22 kpu0_3f22 tq htq k25 rt k27 B hB) r124 (Cn := RX11) (T := TX11) (N := 32) rfl rfl mk_X11_here w_1561 w_1563 w_41 w_1564 ⟨Nat.le_of_ble_eq_true rfl, Nat.le_of_ble_eq_true rfl⟩ rfl (Nat.le_of_ble_eq_true rfl) ⟨Nat.le_of_ble_eq_true rfl, Nat.le_of_ble_eq_true rfl⟩ rfl dX11_reads_69) h (fun r125 f126 H locs p127 h => ?_)
                  obtain ⟨ir125, tf126, ogf126, x0r125⟩ := p127
                  have egf126 := Fr.nil2 ogf126
                  subst egf126
                  refine lv_bipush (v := 59) hx hb dX11_reads_72 (by decide) ?_
                  refine lv_icmp_ne (tgt := 81) hx hb dX11_reads_74 (by decide) (fun c128 => ?_) (fun c128 => ?_)
                  · have c129 : r125.toInt ≠ 59 := fun z_ => c128 (Int32.toInt_inj.mp z_)
                    refine lv_aload_n hx hb dX11_reads_81 rfl (lv_at hl 0 rfl) ?_
                    refine t_getfd C h tf22 hu0 (by decide) wf_60 (v := .int fa1_f3) k28 fl_X11_97 dX11_reads_82 ?_
                    refine lv_iconst (v := -1) hx hb dX11_reads_85 (by decide) ?_
                    refine lv_icmp_ne (tgt := 105) hx hb dX11_reads_86 (by decide) (fun c132 => ?_) (fun c132 => ?_)
                    · have c133 : fa1_f3.toInt ≠ (-1) := fun z_ => c132 (Int32.toInt_inj.mp z_)
                      exact (iv_cn_ c133 i13 (iv_k (x := (-1)) (k := (-1)) rfl) (by decide)).elim
                    · have c134 : fa1_f3.toInt = (-1) := congrArg Int32.toInt c132
                      refine lv_aload_n hx hb dX11_reads_89 rfl (lv_at hl 0 rfl) ?_
                      obtain ⟨_, r135⟩ := t_rec tf22 hu0 (by decide) wf_60
                      refine k_i (r_V C h hl (As := []) (rest := []) (s_X11_lookX l D G b0 τ f22 tf22 u0 hu0 ln hln k24 aa1_f22 ipu0_3f22 kpu0_3f22 tq htq k25 rt k27 B hB) r135 (Cn := RX11) (T := TX11) (N := 32) rfl rfl mk_X11_look w_1557 w_1559 w_40 w_1560 ⟨Nat.le_of_ble_eq_true rfl, Nat.le_of_ble_eq_true rfl⟩ rfl (Nat.le_of_ble_eq_true rfl) ⟨Nat.le_of_ble_eq_true rfl, Nat.le_of_ble_eq_true rfl⟩ rfl dX11_reads_90) h (fun r136 f137 H locs p138 h => ?_)
                      obtain ⟨ir136, tf137, ogf137, x0r136, ⟨aa1_f137, kpu0_3f137, ipu0_3f137, rpu0_3f137⟩⟩ := p138
                      have of137 : Fr [60, 62, 60004, 60005] τ f f137 := Fr.tr of22 ogf137 (by decide) (by decide)
                      have k139 := atp.fk k24 ogf137 hu0 (by decide) (by decide)
                      have k140 := atp.fk k25 ogf137 hu0 (by decide) (by decide)
                      have k141 := atp.fk k26 ogf137 hu0 (by decide) (by decide)
                      have k142 := atp.fr k27 ogf137 htq (by decide)
                      have k143 := atp.fk k28 ogf137 hu0 (by decide) (by decide)
                      have k144 := atp.fr k29 ogf137 hdq (by decide)
                      refine lv_iconst (v := -1) hx hb dX11_reads_93 (by decide) ?_
                      refine lv_icmp_eq (tgt := 105) hx hb dX11_reads_94 (by decide) (fun c145 => ?_) (fun c145 => ?_)
                      · have c146 : r136.toInt = (-1) := congrArg Int32.toInt c145
                        have i147 : iv r136 (-1) (-1) := iv_Q c146 ir136 (iv_k (x := (-1)) (k := (-1)) rfl) (by decide)
                        refine lv_aload_n hx hb dX11_reads_105 rfl (lv_at hl 0 rfl) ?_
                        refine t_getfd C h tf137 hu0 (by decide) wf_60 (v := .int fa1_f3) k143 fl_X11_97 dX11_reads_106 ?_
                        exact u_iret C h hr hQ (⟨(iv_w i13 (by decide)), tf137, of137, ⟨aa1_f137, fa1_f3, rd1_f3, ⟨kpu0_3f137, ipu0_3f137⟩, ⟨k143, (iv_w i13 (by decide))⟩, k144, (by
                            obtain ⟨h8_, hok_, -⟩ := jtf3
                            obtain ⟨hlt_, b1, l1, w1, hw1, hb1, hd1, hr1⟩ := hok_ (by omega)
                            rw [← hrun, ← hr1, run_sk aa1_f3.toInt.toNat, rs_end (by omega) (by omega)]
                            have e8 := (h8_ 8 (by decide)).trans h8a
                            have e9 := (h8_ 9 (by decide)).trans h9a
                            refine ⟨by show _ = (-1 : Int); omega, fun _ => ⟨fun k hk => (hw1 k hk).1, by rw [e8]; rfl, by rw [e9]; rfl, fun k hk => ?_⟩⟩
                            rcases (by omega : k < 8 ∨ k = 8 ∨ k = 9) with q_ | q_ | q_
                            · have := hw1 k q_; omega
                            · rw [q_, e8]; exact ⟨by decide, by decide⟩
                            · rw [q_, e9]; exact ⟨by decide, by decide⟩)⟩⟩) (Nat.le_of_ble_eq_true rfl) (Nat.le_of_ble_eq_true rfl) dX11_reads_109
                      · have c148 : r136.toInt ≠ (-1) := fun z_ => c145 (Int32.toInt_inj.mp z_)
                        have i149 : iv r136 0 255 := iv_Nl c148 ir136 (by decide)
                        refine lv_aload_n hx hb dX11_reads_97 rfl (lv_at hl 0 rfl) ?_
                        refine lv_aload_n hx hb dX11_reads_98 rfl (lv_at hl 0 rfl) ?_
                        refine t_getfd C h tf137 hu0 (by decide) wf_60 (v := .int aa1_f137) kpu0_3f137 fl_X11_90 dX11_reads_99 ?_
                        obtain ⟨_, r150⟩ := t_rec tf137 hu0 (by decide) wf_60
                        refine k_v (r_V C h hl (As := [.int aa1_f137]) (rest := []) (s_X11_failsX l D G b0 τ f137 tf137 u0 hu0 aa1_f137 ipu0_3f137 fa1_f3 (iv_w i13 (by decide)) k143) r150 (Cn := RX11) (T := TX11) (N := 32) rfl rfl mk_X11_fails w_1583 w_1585 w_44 w_1586 ⟨Nat.le_of_ble_eq_true rfl, Nat.le_of_ble_eq_true rfl⟩ rfl (Nat.le_of_ble_eq_true rfl) ⟨Nat.le_of_ble_eq_true rfl, Nat.le_of_ble_eq_true rfl⟩ rfl dX11_reads_102) h (fun f152 H locs p153 h => ?_)
                        obtain ⟨tf152, ogf152, ⟨fa1_f152, kpu0_4f152, ipu0_4f152, rpu0_4f152⟩⟩ := p153
                        have of152 : Fr [60, 62, 60004, 60005] τ f f152 := Fr.tr of137 ogf152 (by decide) (by decide)
                        have k154 := atp.fk k139 ogf152 hu0 (by decide) (by decide)
                        have k155 := atp.fk k140 ogf152 hu0 (by decide) (by decide)
                        have k156 := atp.fk k141 ogf152 hu0 (by decide) (by decide)
                        have k157 := atp.fr k142 ogf152 htq (by decide)
                        have k158 := atp.fr k144 ogf152 hdq (by decide)
                        have k159 := atp.fk kpu0_3f137 ogf152 hu0 (by decide) (by decide)
                        refine lv_aload_n hx hb dX11_reads_105 rfl (lv_at hl 0 rfl) ?_
                        refine t_getfd C h tf152 hu0 (by decide) wf_60 (v := .int fa1_f152) kpu0_4f152 fl_X11_97 dX11_reads_106 ?_
                        exact u_iret C h hr hQ (⟨ipu0_4f152, tf152, of152, ⟨aa1_f137, fa1_f152, rd1_f3, ⟨k159, ipu0_3f137⟩, ⟨kpu0_4f152, ipu0_4f152⟩, k158, (by
                            obtain ⟨h8_, hok_, -⟩ := jtf3
                            obtain ⟨hlt_, b1, l1, w1, hw1, hb1, hd1, hr1⟩ := hok_ (by omega)
                            rw [← hrun, ← hr1, run_sk aa1_f3.toInt.toNat, rs_end (by omega) (by omega)]
                            have e8 := (h8_ 8 (by decide)).trans h8a
                            have e9 := (h8_ 9 (by decide)).trans h9a
                            refine ⟨by show _ = (-1 : Int); omega, fun _ => ⟨fun k hk => (hw1 k hk).1, by rw [e8]; rfl, by rw [e9]; rfl, fun k hk => ?_⟩⟩
                            rcases (by omega : k < 8 ∨ k = 8 ∨ k = 9) with q_ | q_ | q_
                            · have := hw1 k q_; omega
                            · rw [q_, e8]; exact ⟨by decide, by decide⟩
                            · rw [q_, e9]; exact ⟨by decide, by decide⟩)⟩⟩) (Nat.le_of_ble_eq_true rfl) (Nat.le_of_ble_eq_true rfl) dX11_reads_109
                  · have c130 : r125.toInt = 59 := congrArg Int32.toInt c128
                    have i131 : iv r125 59 59 := iv_Q c130 ir125 (iv_k (x := 59) (k := 59) rfl) (by decide)
                    refine lv_aload_n hx hb dX11_reads_77 rfl (lv_at hl 0 rfl) ?_
                    obtain ⟨h8_, hok_, -⟩ := jtf3
                    obtain ⟨hlt_, b1, l1, w1, hw1, hb1, hd1, hr1⟩ := hok_ (by omega)
                    have eA : aa1_f22.toInt.toNat = (rn 32 32 B ln.toInt.toNat aa1_f3.toInt.toNat) := by omega
                    have i160 : iv aa1_f22 0 199 := ⟨by omega, by omega⟩
                    obtain ⟨_, r161⟩ := t_rec tf22 hu0 (by decide) wf_60
                    refine k_v (r_V C h hl (As := []) (rest := []) (s_X11_readsStartX l D G b0 τ f22 tf22 u0 hu0 ln hln k24 aa1_f22 i160 kpu0_3f22 tq htq k25 fa1_f3 i13 k28 dq hdq k26 rt k27 rd1_f3 k29 B hB b1 l1 0 0 w1 hb1 (by omega) (by omega)) r161 (Cn := RX11) (T := TX11) (N := 32) rfl rfl mk_X11_readsStart w_1595 w_1597 w_47 w_1598 ⟨Nat.le_of_ble_eq_true rfl, Nat.le_of_ble_eq_true rfl⟩ rfl (Nat.le_of_ble_eq_true rfl) ⟨Nat.le_of_ble_eq_true rfl, Nat.le_of_ble_eq_true rfl⟩ rfl dX11_reads_78) h (fun f163 H locs p164 h => ?_)
                    obtain ⟨tf163, ogf163, ⟨aa1_f163, fa1_f163, rd1_f163, ⟨kpu0_3f163, ipu0_3f163⟩, ⟨kpu0_4f163, ipu0_4f163⟩, kRdqf163, jtf163⟩⟩ := p164
                    have of163 : Fr [60, 62, 60004, 60005] τ f f163 := Fr.tr of22 ogf163 (by decide) (by decide)
                    have k165 := atp.fk k24 ogf163 hu0 (by decide) (by decide)
                    have k166 := atp.fk k25 ogf163 hu0 (by decide) (by decide)
                    have k167 := atp.fk k26 ogf163 hu0 (by decide) (by decide)
                    have k168 := atp.fr k27 ogf163 htq (by decide)
                    refine lv_aload_n hx hb dX11_reads_81 rfl (lv_at hl 0 rfl) ?_
                    refine t_getfd C h tf163 hu0 (by decide) wf_60 (v := .int fa1_f163) kpu0_4f163 fl_X11_97 dX11_reads_82 ?_
                    refine lv_iconst (v := -1) hx hb dX11_reads_85 (by decide) ?_
                    refine lv_icmp_ne (tgt := 105) hx hb dX11_reads_86 (by decide) (fun c169 => ?_) (fun c169 => ?_)
                    · have c170 : fa1_f163.toInt ≠ (-1) := fun z_ => c169 (Int32.toInt_inj.mp z_)
                      have i171 : iv fa1_f163 0 200 := iv_Nl c170 ipu0_4f163 (by decide)
                      refine lv_aload_n hx hb dX11_reads_105 rfl (lv_at hl 0 rfl) ?_
                      refine t_getfd C h tf163 hu0 (by decide) wf_60 (v := .int fa1_f163) kpu0_4f163 fl_X11_97 dX11_reads_106 ?_
                      exact u_iret C h hr hQ (⟨(iv_w i171 (by decide)), tf163, of163, ⟨aa1_f163, fa1_f163, rd1_f163, ⟨kpu0_3f163, ipu0_3f163⟩, ⟨kpu0_4f163, (iv_w i171 (by decide))⟩, kRdqf163, (by
                          have hRA : run B ln.toInt.toNat aa1_f22.toInt.toNat b1 w1 l1 0 0 = run B ln.toInt.toNat 0 0 (fun _ => 0) 0 0 0 := by rw [← hrun, ← hr1, run_sk aa1_f3.toInt.toNat, eA]
                          rw [← hRA]
                          have h6 := jtf163.2.2 (by omega)
                          rw [h6]; exact ⟨rfl, fun z_ => absurd z_ (by omega)⟩)⟩⟩) (Nat.le_of_ble_eq_true rfl) (Nat.le_of_ble_eq_true rfl) dX11_reads_109
                    · have c172 : fa1_f163.toInt = (-1) := congrArg Int32.toInt c169
                      have i173 : iv fa1_f163 (-1) (-1) := iv_Q c172 ipu0_4f163 (iv_k (x := (-1)) (k := (-1)) rfl) (by decide)
                      refine lv_aload_n hx hb dX11_reads_89 rfl (lv_at hl 0 rfl) ?_
                      obtain ⟨_, r174⟩ := t_rec tf163 hu0 (by decide) wf_60
                      refine k_i (r_V C h hl (As := []) (rest := []) (s_X11_lookX l D G b0 τ f163 tf163 u0 hu0 ln hln k165 aa1_f163 ipu0_3f163 kpu0_3f163 tq htq k166 rt k168 B hB) r174 (Cn := RX11) (T := TX11) (N := 32) rfl rfl mk_X11_look w_1557 w_1559 w_40 w_1560 ⟨Nat.le_of_ble_eq_true rfl, Nat.le_of_ble_eq_true rfl⟩ rfl (Nat.le_of_ble_eq_true rfl) ⟨Nat.le_of_ble_eq_true rfl, Nat.le_of_ble_eq_true rfl⟩ rfl dX11_reads_90) h (fun r175 f176 H locs p177 h => ?_)
                      obtain ⟨ir175, tf176, ogf176, x0r175, ⟨aa1_f176, kpu0_3f176, ipu0_3f176, rpu0_3f176⟩⟩ := p177
                      have of176 : Fr [60, 62, 60004, 60005] τ f f176 := Fr.tr of163 ogf176 (by decide) (by decide)
                      have k178 := atp.fk k165 ogf176 hu0 (by decide) (by decide)
                      have k179 := atp.fk k166 ogf176 hu0 (by decide) (by decide)
                      have k180 := atp.fk k167 ogf176 hu0 (by decide) (by decide)
                      have k181 := atp.fr k168 ogf176 htq (by decide)
                      have k182 := atp.fk kpu0_4f163 ogf176 hu0 (by decide) (by decide)
                      have k183 := atp.fr kRdqf163 ogf176 hdq (by decide)
                      refine lv_iconst (v := -1) hx hb dX11_reads_93 (by decide) ?_
                      refine lv_icmp_eq (tgt := 105) hx hb dX11_reads_94 (by decide) (fun c184 => ?_) (fun c184 => ?_)
                      · have c185 : r175.toInt = (-1) := congrArg Int32.toInt c184
                        have i186 : iv r175 (-1) (-1) := iv_Q c185 ir175 (iv_k (x := (-1)) (k := (-1)) rfl) (by decide)
                        refine lv_aload_n hx hb dX11_reads_105 rfl (lv_at hl 0 rfl) ?_
                        refine t_getfd C h tf176 hu0 (by decide) wf_60 (v := .int fa1_f163) k182 fl_X11_97 dX11_reads_106 ?_
                        exact u_iret C h hr hQ (⟨(iv_w i173 (by decide)), tf176, of176, ⟨aa1_f176, fa1_f163, rd1_f163, ⟨kpu0_3f176, ipu0_3f176⟩, ⟨k182, (iv_w i173 (by decide))⟩, k183, (by
                            have hRA : run B ln.toInt.toNat aa1_f22.toInt.toNat b1 w1 l1 0 0 = run B ln.toInt.toNat 0 0 (fun _ => 0) 0 0 0 := by rw [← hrun, ← hr1, run_sk aa1_f3.toInt.toNat, eA]
                            have h6 := jtf163.2.1 (by omega)
                            have hk8 := jtf163.1
                            rw [← hRA, ← h6.2, run_sk aa1_f163.toInt.toNat, rs_end (by omega) (by omega)]
                            refine ⟨by show _ = (-1 : Int); omega, fun _ => ⟨fun k hk => ?_, rfl, rfl, fun k hk => ?_⟩⟩
                            · rw [hk8 k hk]; exact (hw1 k hk).1
                            · rcases (by omega : k < 8 ∨ k = 8 ∨ k = 9) with q_ | q_ | q_
                              · rw [hk8 k q_]; have := hw1 k q_; omega
                              · rw [q_]; exact h6.1.1
                              · rw [q_]; exact h6.1.2)⟩⟩) (Nat.le_of_ble_eq_true rfl) (Nat.le_of_ble_eq_true rfl) dX11_reads_109
                      · have c187 : r175.toInt ≠ (-1) := fun z_ => c184 (Int32.toInt_inj.mp z_)
                        have i188 : iv r175 0 255 := iv_Nl c187 ir175 (by decide)
                        refine lv_aload_n hx hb dX11_reads_97 rfl (lv_at hl 0 rfl) ?_
                        refine lv_aload_n hx hb dX11_reads_98 rfl (lv_at hl 0 rfl) ?_
                        refine t_getfd C h tf176 hu0 (by decide) wf_60 (v := .int aa1_f176) kpu0_3f176 fl_X11_90 dX11_reads_99 ?_
                        obtain ⟨_, r189⟩ := t_rec tf176 hu0 (by decide) wf_60
                        refine k_v (r_V C h hl (As := [.int aa1_f176]) (rest := []) (s_X11_failsX l D G b0 τ f176 tf176 u0 hu0 aa1_f176 ipu0_3f176 fa1_f163 (iv_w i173 (by decide)) k182) r189 (Cn := RX11) (T := TX11) (N := 32) rfl rfl mk_X11_fails w_1583 w_1585 w_44 w_1586 ⟨Nat.le_of_ble_eq_true rfl, Nat.le_of_ble_eq_true rfl⟩ rfl (Nat.le_of_ble_eq_true rfl) ⟨Nat.le_of_ble_eq_true rfl, Nat.le_of_ble_eq_true rfl⟩ rfl dX11_reads_102) h (fun f191 H locs p192 h => ?_)
                        obtain ⟨tf191, ogf191, ⟨fa1_f191, kpu0_4f191, ipu0_4f191, rpu0_4f191⟩⟩ := p192
                        have of191 : Fr [60, 62, 60004, 60005] τ f f191 := Fr.tr of176 ogf191 (by decide) (by decide)
                        have k193 := atp.fk k178 ogf191 hu0 (by decide) (by decide)
                        have k194 := atp.fk k179 ogf191 hu0 (by decide) (by decide)
                        have k195 := atp.fk k180 ogf191 hu0 (by decide) (by decide)
                        have k196 := atp.fr k181 ogf191 htq (by decide)
                        have k197 := atp.fr k183 ogf191 hdq (by decide)
                        have k198 := atp.fk kpu0_3f176 ogf191 hu0 (by decide) (by decide)
                        refine lv_aload_n hx hb dX11_reads_105 rfl (lv_at hl 0 rfl) ?_
                        refine t_getfd C h tf191 hu0 (by decide) wf_60 (v := .int fa1_f191) kpu0_4f191 fl_X11_97 dX11_reads_106 ?_
                        exact u_iret C h hr hQ (⟨ipu0_4f191, tf191, of191, ⟨aa1_f176, fa1_f191, rd1_f163, ⟨k198, ipu0_3f176⟩, ⟨kpu0_4f191, ipu0_4f191⟩, k197, (by
                            have hRA : run B ln.toInt.toNat aa1_f22.toInt.toNat b1 w1 l1 0 0 = run B ln.toInt.toNat 0 0 (fun _ => 0) 0 0 0 := by rw [← hrun, ← hr1, run_sk aa1_f3.toInt.toNat, eA]
                            have h6 := (jtf163.2.1 (by omega)).2
                            rw [← hRA, ← h6, run_sk aa1_f163.toInt.toNat]
                            have hs_ := rn_stop (lo := 32) (hi := 32) (B := B) (L := ln.toInt.toNat) aa1_f163.toInt.toNat
                            refine ⟨?_, fun z_ => absurd z_ (by omega)⟩
                            rw [rs_6 (by omega) (by omega)]; omega)⟩⟩) (Nat.le_of_ble_eq_true rfl) (Nat.le_of_ble_eq_true rfl) dX11_reads_109
      refine lv_iload_n hx hb dX11_reads_12 rfl (lv_at hl 1 rfl) ?_
      refine lv_bipush (v := 10) hx hb dX11_reads_13 (by decide) ?_
      refine lv_icmp_ge (tgt := 31) hx hb dX11_reads_15 (by decide) (fun c199 => ?_) (fun c199 => ?_)
      · have c200 : 10 ≤ v12_1.toInt := Int32.le_iff_toInt_le.mp c199
        have i201 : iv v12_1 10 10 := iv_Er c200 (iv_k (x := 10) (k := 10) rfl) iv12_1 (by decide)
        exact L31 201 ls f_12 H locs g12_dq_R g12_u0_3 g12_u0_4 (show 200 - g12_u0_3.toInt < _ by omega) (lv_cons hl 0 rfl (lv_nil hl)) h t_12 o_12 (iv_w ig12_u0_3 (by decide)) ig12_u0_4 k12_u0_2 k12_u0_1 k12_u0_5 k12_tq_R k12_dq_R k12_u0_3 k12_u0_4 (show ∃ (b : Int) (l : Nat) (w : Nat → Int), (∀ k : Nat, k < 8 → (g12_dq_R k).toInt = w k ∧ 0 ≤ w k ∧ w k ≤ 9) ∧ (b = 0 ∨ b = 1 ∨ b = 2) ∧ (b ≠ 0 → (rn 32 32 B ln.toInt.toNat (Int.toNat (g12_u0_3.toInt))) < ln.toInt.toNat ∧ B (rn 32 32 B ln.toInt.toNat (Int.toNat (g12_u0_3.toInt))) ≠ 59 ∧ (b = 1 → ¬ (48 ≤ B (rn 32 32 B ln.toInt.toNat (Int.toNat (g12_u0_3.toInt))) ∧ B (rn 32 32 B ln.toInt.toNat (Int.toNat (g12_u0_3.toInt))) ≤ 57))) ∧ (g12_dq_R 8 = 0 ∧ g12_dq_R 9 = 0) ∧ run B ln.toInt.toNat (Int.toNat (g12_u0_3.toInt)) b w l 0 0 = run B ln.toInt.toNat 0 0 (fun _ => 0) 0 0 0 from ⟨0, 0, fun _ => 0, fun k hk => (by rw [hv12_0 k, if_pos (by omega)]; exact ⟨rfl, by decide, by decide⟩), Or.inl rfl, fun z_ => absurd rfl z_, ⟨by rw [hv12_0 8, if_pos (by omega)], by rw [hv12_0 9, if_pos (by omega)]⟩, rfl⟩)
      · have c202 : v12_1.toInt < 10 := Int32.lt_iff_toInt_lt.mp (iv_nle c199)
        have i203 : iv v12_1 0 9 := iv_Ll c202 iv12_1 (iv_k (x := 10) (k := 10) rfl) (by decide)
        refine lv_aload_n hx hb dX11_reads_18 rfl (lv_at hl 0 rfl) ?_
        refine t_getfd C h t_12 hu0 (by decide) wf_60 (v := .ref dq) k12_u0_5 fl_X11_13 dX11_reads_19 ?_
        refine lv_iload_n hx hb dX11_reads_22 rfl (lv_at hl 1 rfl) ?_
        refine lv_iconst (v := 0) hx hb dX11_reads_23 (by decide) ?_
        refine e_iast C h t_12 o_12 hdq (by decide) (by decide) wf_62 fw_62 k12_dq_R (iv_in i203 (by decide)) ⟨by decide, by decide⟩ dX11_reads_24 (fun R206 f204 erR206 H locs h tf204 of204 hq hn_ k205 => ?_)
        have k207 := atp.tg k12_u0_2 hq hu0 (by decide)
        have k208 := atp.tg k12_u0_1 hq hu0 (by decide)
        have k209 := atp.tg k12_u0_5 hq hu0 (by decide)
        have k210 := atp.tg k12_tq_R hq htq (by decide)
        have k212 := atp.tg k12_u0_3 hq hu0 (by decide)
        have k213 := atp.tg k12_u0_4 hq hu0 (by decide)
        refine i_inc hx hb dX11_reads_25 hl (k := 1) rfl i203 rfl (lo := 1) (hi := 10) (by decide) (by decide) (lv' := fun v => [(1, .int v), (0, .ref u0)]) (fun _ => rfl) (fun z214 ls ez214 mz214 iz214 hl => ?_)
        refine lv_goto (tgt := 12) hx hb dX11_reads_28 (by decide) ?_
        exact ih12 ls f204 H locs z214 R206 g12_u0_3 g12_u0_4 (show 10 - z214.toInt < _ by omega) (lv_cons hl 1 rfl (lv_cons hl 0 rfl (lv_nil hl))) h tf204 of204 (iv_w iz214 (by decide)) ig12_u0_3 ig12_u0_4 k207 k208 k209 k210 k205 k212 k213 (show ∀ k : Nat, R206 k = if (k : Int) < z214.toInt then 0 else rd k from (by
            intro k; rw [erR206]; by_cases q_ : k = v12_1.toInt.toNat
            · rw [upd_at q_]; (repeat' split) <;> first | rfl | (exfalso; omega) | (exact congrArg _ (by omega))
            · rw [upd_off q_, hv12_0 k]; (repeat' split) <;> first | rfl | (exfalso; omega) | (exact congrArg _ (by omega))))
  refine lv_aload_n hx hb dX11_reads_0 rfl (lv_at hl 0 rfl) ?_
  refine lv_iconst (v := 0) hx hb dX11_reads_1 (by decide) ?_
  refine t_put C h t o hu0 (by decide) (by decide) (by decide) wf_60 fw_60 (k := 3) rfl flw_X11_90 (Or.inr ⟨_, _, _, rfl, rfl⟩) (v := .int 0) rfl rfl ⟨_, rfl, ⟨by decide, by decide⟩⟩ dX11_reads_2 (fun f215 H locs h tf215 of215 hq ha_ hn_ hk_ => ?_)
  have k216 := hk_ 2 _ (by decide) k_u0_2
  have k218 := hk_ 1 _ (by decide) k_u0_1
  have k219 := hk_ 4 _ (by decide) k_u0_4
  have k220 := hk_ 5 _ (by decide) k_u0_5
  have k221 := atp.tg hRtq hq htq (by decide)
  have k222 := atp.tg hRdq hq hdq (by decide)
  have k223 := ha_
  refine lv_aload_n hx hb dX11_reads_5 rfl (lv_at hl 0 rfl) ?_
  refine lv_iconst (v := -1) hx hb dX11_reads_6 (by decide) ?_
  refine t_put C h tf215 of215 hu0 (by decide) (by decide) (by decide) wf_60 fw_60 (k := 4) rfl flw_X11_97 (Or.inr ⟨_, _, _, rfl, rfl⟩) (v := .int (-1)) rfl rfl ⟨_, rfl, ⟨by decide, by decide⟩⟩ dX11_reads_7 (fun f224 H locs h tf224 of224 hq ha_ hn_ hk_ => ?_)
  have k225 := hk_ 2 _ (by decide) k216
  have k226 := hk_ 1 _ (by decide) k218
  have k228 := hk_ 5 _ (by decide) k220
  have k229 := atp.tg k221 hq htq (by decide)
  have k230 := atp.tg k222 hq hdq (by decide)
  have k231 := hk_ 3 _ (by decide) k223
  have k232 := ha_
  refine lv_iconst (v := 0) hx hb dX11_reads_10 (by decide) ?_
  refine lv_istore_n (lv' := [(1, .int 0), (0, .ref u0)]) hx hb dX11_reads_11 rfl hl (by decide) rfl (fun ls hl => ?_)
  exact L12 11 ls f224 H locs 0 rd 0 (-1) (by decide) (lv_cons hl 1 rfl (lv_cons hl 0 rfl (lv_nil hl))) h tf224 of224 ⟨by decide, by decide⟩ ⟨by decide, by decide⟩ ⟨by decide, by decide⟩ k225 k226 k228 k229 k230 k231 k232 (show ∀ k : Nat, rd k = if (k : Int) < 0 then 0 else rd k from (by
      intro k; (repeat' split) <;> first | rfl | (exfalso; omega) | (exact congrArg _ (by omega))))
