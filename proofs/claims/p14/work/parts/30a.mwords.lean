theorem dX11_word_0 : decode cX11_word 0 = .ok (.aload_n 0, 1) := by decide +kernel
theorem dX11_word_1 : decode cX11_word 1 = .ok (.invokevirtual 100, 3) := by decide +kernel
theorem dX11_word_4 : decode cX11_word 4 = .ok (.istore_n 2, 1) := by decide +kernel
theorem dX11_word_5 : decode cX11_word 5 = .ok (.iconst 0, 1) := by decide +kernel
theorem dX11_word_6 : decode cX11_word 6 = .ok (.istore_n 3, 1) := by decide +kernel
theorem dX11_word_7 : decode cX11_word 7 = .ok (.iload_n 3, 1) := by decide +kernel
theorem dX11_word_8 : decode cX11_word 8 = .ok (.aload_n 1, 1) := by decide +kernel
theorem dX11_word_9 : decode cX11_word 9 = .ok (.invokevirtual 103, 3) := by decide +kernel
theorem w_1253 : Cond.selects yJ0_length_8abf5.cls yJ0_length_8abf5 yJ0_length_8abf5 ∈ wAll := wI5 198 (by decide +kernel) (by decide +kernel)
theorem mk_J0_length_8abf5 : mk yJ0_length_8abf5 0 := ⟨by decide +kernel, w_108⟩
theorem w_1574 : Cond.methodLink "QuarterWalksModel" 103 yJ0_length_8abf5 ∈ wAll := wI7 39 (by decide +kernel) (by decide +kernel)
theorem w_1252 : Cond.instanceMethod yJ0_length_8abf5 ∈ wAll := wI5 197 (by decide +kernel) (by decide +kernel)
theorem w_1254 : Cond.code yJ0_length_8abf5 cJ0_length_8abf5 1 (some .int) ∈ wAll := wI5 199 (by decide +kernel) (by decide +kernel)
theorem dX11_word_12 : decode cX11_word 12 = .ok (.if_icmp .ge 43, 3) := by decide +kernel
theorem dX11_word_15 : decode cX11_word 15 = .ok (.aload_n 0, 1) := by decide +kernel
theorem dX11_word_16 : decode cX11_word 16 = .ok (.getfield 90, 3) := by decide +kernel
theorem dX11_word_19 : decode cX11_word 19 = .ok (.iload_n 3, 1) := by decide +kernel
theorem dX11_word_20 : decode cX11_word 20 = .ok (.iadd, 1) := by decide +kernel
theorem dX11_word_21 : decode cX11_word 21 = .ok (.aload_n 0, 1) := by decide +kernel
theorem dX11_word_22 : decode cX11_word 22 = .ok (.getfield 79, 3) := by decide +kernel
theorem dX11_word_25 : decode cX11_word 25 = .ok (.if_icmp .ge 22, 3) := by decide +kernel
theorem dX11_word_47 : decode cX11_word 47 = .ok (.iconst 0, 1) := by decide +kernel
theorem dX11_word_28 : decode cX11_word 28 = .ok (.aload_n 0, 1) := by decide +kernel
theorem dX11_word_29 : decode cX11_word 29 = .ok (.getfield 9, 3) := by decide +kernel
theorem dX11_word_32 : decode cX11_word 32 = .ok (.aload_n 0, 1) := by decide +kernel
theorem dX11_word_33 : decode cX11_word 33 = .ok (.getfield 90, 3) := by decide +kernel
theorem dX11_word_36 : decode cX11_word 36 = .ok (.iload_n 3, 1) := by decide +kernel
theorem dX11_word_37 : decode cX11_word 37 = .ok (.iadd, 1) := by decide +kernel
theorem dX11_word_38 : decode cX11_word 38 = .ok (.baload, 1) := by decide +kernel
theorem dX11_word_39 : decode cX11_word 39 = .ok (.aload_n 1, 1) := by decide +kernel
theorem dX11_word_40 : decode cX11_word 40 = .ok (.iload_n 3, 1) := by decide +kernel
theorem dX11_word_41 : decode cX11_word 41 = .ok (.invokevirtual 107, 3) := by decide +kernel
theorem w_1575 : Cond.methodLink "QuarterWalksModel" 107 yJ0_charAt_5068e ∈ wAll := wI7 40 (by decide +kernel) (by decide +kernel)
theorem dX11_word_44 : decode cX11_word 44 = .ok (.if_icmp .eq 5, 3) := by decide +kernel
theorem dX11_word_49 : decode cX11_word 49 = .ok (.iinc 3 1, 3) := by decide +kernel
theorem dX11_word_52 : decode cX11_word 52 = .ok (.goto (-45), 3) := by decide +kernel
theorem dX11_word_55 : decode cX11_word 55 = .ok (.aload_n 0, 1) := by decide +kernel
theorem dX11_word_56 : decode cX11_word 56 = .ok (.getfield 90, 3) := by decide +kernel
theorem dX11_word_59 : decode cX11_word 59 = .ok (.aload_n 1, 1) := by decide +kernel
theorem dX11_word_60 : decode cX11_word 60 = .ok (.invokevirtual 103, 3) := by decide +kernel
theorem dX11_word_63 : decode cX11_word 63 = .ok (.iadd, 1) := by decide +kernel
theorem dX11_word_64 : decode cX11_word 64 = .ok (.istore_n 3, 1) := by decide +kernel
theorem dX11_word_65 : decode cX11_word 65 = .ok (.iload_n 3, 1) := by decide +kernel
theorem dX11_word_66 : decode cX11_word 66 = .ok (.aload_n 0, 1) := by decide +kernel
theorem dX11_word_67 : decode cX11_word 67 = .ok (.getfield 79, 3) := by decide +kernel
theorem dX11_word_70 : decode cX11_word 70 = .ok (.if_icmp .ge 27, 3) := by decide +kernel
theorem dX11_word_97 : decode cX11_word 97 = .ok (.aload_n 0, 1) := by decide +kernel
theorem dX11_word_98 : decode cX11_word 98 = .ok (.iload_n 3, 1) := by decide +kernel
theorem dX11_word_99 : decode cX11_word 99 = .ok (.putfield 90, 3) := by decide +kernel
theorem dX11_word_102 : decode cX11_word 102 = .ok (.iconst 1, 1) := by decide +kernel
theorem dX11_word_73 : decode cX11_word 73 = .ok (.aload_n 0, 1) := by decide +kernel
theorem dX11_word_74 : decode cX11_word 74 = .ok (.getfield 9, 3) := by decide +kernel
theorem dX11_word_77 : decode cX11_word 77 = .ok (.iload_n 3, 1) := by decide +kernel
theorem dX11_word_78 : decode cX11_word 78 = .ok (.baload, 1) := by decide +kernel
theorem dX11_word_79 : decode cX11_word 79 = .ok (.bipush 97, 2) := by decide +kernel
theorem dX11_word_81 : decode cX11_word 81 = .ok (.if_icmp .lt 16, 3) := by decide +kernel
theorem dX11_word_84 : decode cX11_word 84 = .ok (.aload_n 0, 1) := by decide +kernel
theorem dX11_word_85 : decode cX11_word 85 = .ok (.getfield 9, 3) := by decide +kernel
theorem dX11_word_88 : decode cX11_word 88 = .ok (.iload_n 3, 1) := by decide +kernel
theorem dX11_word_89 : decode cX11_word 89 = .ok (.baload, 1) := by decide +kernel
theorem dX11_word_90 : decode cX11_word 90 = .ok (.bipush 122, 2) := by decide +kernel
theorem dX11_word_92 : decode cX11_word 92 = .ok (.if_icmp .gt 5, 3) := by decide +kernel
theorem dX11_word_95 : decode cX11_word 95 = .ok (.iconst 0, 1) := by decide +kernel
theorem dX11_word_48 : decode cX11_word 48 = .ok (.ireturn, 1) := by decide +kernel
theorem dX11_word_103 : decode cX11_word 103 = .ok (.ireturn, 1) := by decide +kernel
theorem dX11_word_96 : decode cX11_word 96 = .ok (.ireturn, 1) := by decide +kernel
abbrev rm_s_X11_wordX0 : Room := { frames := 4, cells := 0, slots := 0, locals := 85 }
set_option maxRecDepth 100000 in
set_option maxHeartbeats 4000000 in
theorem s_X11_wordX0 (l : Launch) (D : va_G) (G : Nat → Nat) (b0 : Nat) (τ : Nat → Nat) (f : hM) (t : TI G 9 τ f) (u0 : Nat) (hu0 : τ u0 = 60) (ln : Int32) (hln : iv ln 0 200) (k_u0_2 : atp f u0 (fd 2 (.int ln))) (aa : Int32) (haa : iv aa 0 200) (k_u0_3 : atp f u0 (fd 3 (.int aa))) (tq : Nat) (htq : τ tq = 61) (k_u0_1 : atp f u0 (fd 1 (.ref tq))) (rt : Nat → Int32) (hRtq : atp f tq (eqc (.inl (G 0, 200, .inl rt)))) (B : Nat → Int) (hB : ∀ k : Nat, (k : Int) < ln.toInt → (rt k).toInt = sg (B k) ∧ 0 ≤ B k ∧ B k ≤ 255)  : mI l yX11_word cX11_word 4 (.boolean) rm_s_X11_wordX0 D G b0 f [.ref u0, .ref (G (20 + 0))] (fun r f1 => iv r 0 1 ∧ TI G 9 τ f1 ∧ Fr [60, 60004] τ f f1 ∧ (r.toInt ≠ 0 → (mw1 B ln.toInt.toNat (rn 32 32 B ln.toInt.toNat aa.toInt.toNat) 110)) ∧ (r.toInt = 0 → (¬ mw1 B ln.toInt.toNat (rn 32 32 B ln.toInt.toNat aa.toInt.toNat) 110)) ∧ (∃ aa1 : Int32, atp f1 u0 (fd 3 (.int aa1)) ∧ iv aa1 0 200 ∧ (r.toInt ≠ 0 → aa1.toInt = (((rn 32 32 B ln.toInt.toNat aa.toInt.toNat) : Nat) : Int) + 1) ∧ (r.toInt = 0 → aa1.toInt = (((rn 32 32 B ln.toInt.toNat aa.toInt.toNat) : Nat) : Int)))) := by
  refine met2 (own := RX11) (by decide) rfl (Nat.le_of_ble_eq_true rfl) ?_
  intro p e s m args below meth c ls Q hQ C hr hini hl h
  have hl : lv_has ls 4 [(0, .ref u0), (1, .ref (G (20 + 0)))] := hl
  obtain ⟨hx, hb, hml, hown, hts, hE0, hlk⟩ := id C
  have o := Fr.rf [60, 60004] τ f
  refine lv_aload_n hx hb dX11_word_0 rfl (lv_at hl 0 rfl) ?_
  obtain ⟨_, r1⟩ := t_rec t hu0 (by decide) wf_60
  refine k_i (r_V C h hl (As := []) (rest := []) (s_X11_lookX l D G b0 τ f t u0 hu0 ln hln k_u0_2 aa haa k_u0_3 tq htq k_u0_1 rt hRtq B hB) r1 (Cn := RX11) (T := TX11) (N := 32) rfl rfl mk_X11_look w_1557 w_1559 w_40 w_1560 ⟨Nat.le_of_ble_eq_true rfl, Nat.le_of_ble_eq_true rfl⟩ rfl (Nat.le_of_ble_eq_true rfl) ⟨Nat.le_of_ble_eq_true rfl, Nat.le_of_ble_eq_true rfl⟩ rfl dX11_word_1) h (fun r2 f3 H locs p4 h => ?_)
  obtain ⟨ir2, tf3, ogf3, x0r2, ⟨aa1_f3, kpu0_3f3, ipu0_3f3, rpu0_3f3⟩⟩ := p4
  have of3 : Fr [60, 60004] τ f f3 := Fr.tr o ogf3 (by decide) (by decide)
  have k5 := atp.fk k_u0_2 ogf3 hu0 (by decide) (by decide)
  have k6 := atp.fk k_u0_1 ogf3 hu0 (by decide) (by decide)
  have k7 := atp.fr hRtq ogf3 htq (by decide)
  refine lv_istore_n (lv' := [(2, .int r2), (0, .ref u0), (1, .ref (G (20 + 0)))]) hx hb dX11_word_4 rfl hl (by decide) rfl (fun ls hl => ?_)
  refine lv_iconst (v := 0) hx hb dX11_word_5 (by decide) ?_
  refine lv_istore_n (lv' := [(3, .int 0), (2, .int r2), (0, .ref u0), (1, .ref (G (20 + 0)))]) hx hb dX11_word_6 rfl hl (by decide) rfl (fun ls hl => ?_)
  refine lv_iload_n hx hb dX11_word_7 rfl (lv_at hl 0 rfl) ?_
  refine lv_aload_n hx hb dX11_word_8 rfl (lv_at hl 3 rfl) ?_
  have hrv := vk_recv hE0.2.2.2.2.2.2.2.2.2.1 (i := 0) (by decide) h.2.2.1
  refine k_i (r_VK C h hl (As := []) (rest := [.int 0]) (c_length l D G b0 f3 0 (by decide)) hrv mk_J0_length_8abf5 w_1574 w_1252 w_1253 w_1254 ⟨(Nat.le_of_ble_eq_true rfl), (Nat.le_of_ble_eq_true rfl)⟩ rfl (Nat.le_of_ble_eq_true rfl) ⟨(Nat.le_of_ble_eq_true rfl), (Nat.le_of_ble_eq_true rfl)⟩ rfl dX11_word_9) h (fun r8 f9 H locs p10 h => ?_)
  obtain ⟨er8, rfl⟩ := p10
  obtain rfl : (1 : Int32) = r8 := by rw [er8]; decide
  refine lv_icmp_ge (tgt := 55) hx hb dX11_word_12 (by decide) (fun c11 => ?_) (fun c11 => ?_)
  · exact absurd c11 (by decide)
  · refine lv_aload_n hx hb dX11_word_15 rfl (lv_at hl 2 rfl) ?_
    refine t_getfd C h tf3 hu0 (by decide) wf_60 (v := .int aa1_f3) kpu0_3f3 fl_X11_90 dX11_word_16 ?_
    refine lv_iload_n hx hb dX11_word_19 rfl (lv_at hl 0 rfl) ?_
    refine i_addk hx hb dX11_word_20 ipu0_3f3 (k := 0) rfl (lo := 0) (hi := 200) (by decide) (fun z14 ez14 mz14 iz14 => ?_)
    refine lv_aload_n hx hb dX11_word_21 rfl (lv_at hl 2 rfl) ?_
    refine t_getfd C h tf3 hu0 (by decide) wf_60 (v := .int ln) k5 fl_X11_79 dX11_word_22 ?_
    refine lv_icmp_ge (tgt := 47) hx hb dX11_word_25 (by decide) (fun c15 => ?_) (fun c15 => ?_)
    · have c16 : ln.toInt ≤ z14.toInt := Int32.le_iff_toInt_le.mp c15
      refine lv_iconst (v := 0) hx hb dX11_word_47 (by decide) ?_
      exact u_zret C h hr hQ ⟨by decide, by decide⟩ (⟨⟨by decide, by decide⟩, tf3, of3, (fun h_ => absurd h_ (by decide)), (fun _ => (fun z_ => by obtain ⟨h1_, g0_, h9_⟩ := z_; omega)), ⟨aa1_f3, kpu0_3f3, ipu0_3f3, (by have n1_ : (1 : Int32).toInt = 1 := rfl; have n0_ : (0 : Int32).toInt = 0 := rfl; omega)⟩⟩) (Nat.le_of_ble_eq_true rfl) (Nat.le_of_ble_eq_true rfl) dX11_word_48
    · have c17 : z14.toInt < ln.toInt := Int32.lt_iff_toInt_lt.mp (iv_nle c15)
      have i18 : iv z14 0 199 := iv_Ll c17 iz14 hln (by decide)
      have i19 : iv ln 1 200 := iv_Lr c17 iz14 hln (by decide)
      refine lv_aload_n hx hb dX11_word_28 rfl (lv_at hl 2 rfl) ?_
      refine t_getfd C h tf3 hu0 (by decide) wf_60 (v := .ref tq) k6 fl_X11_9 dX11_word_29 ?_
      refine lv_aload_n hx hb dX11_word_32 rfl (lv_at hl 2 rfl) ?_
      refine t_getfd C h tf3 hu0 (by decide) wf_60 (v := .int aa1_f3) kpu0_3f3 fl_X11_90 dX11_word_33 ?_
      refine lv_iload_n hx hb dX11_word_36 rfl (lv_at hl 0 rfl) ?_
      refine i_addk hx hb dX11_word_37 ipu0_3f3 (k := 0) rfl (lo := 0) (hi := 200) (by decide) (fun z20 ez20 mz20 iz20 => ?_)
      refine e_bald C h tf3 htq (by decide) wf_61 k7 (ix_o (by omega)) dX11_word_38 (fun z21 ez21 iz21 => ?_)
      have mz21 := congrArg Int32.toInt ez21
      have hz21 := hB (rn 32 32 B ln.toInt.toNat aa.toInt.toNat) (by omega)
      have sz21 := sg_c hz21.2
      have qz21 : z21.toInt = sg (B (rn 32 32 B ln.toInt.toNat aa.toInt.toNat)) := by rw [mz21, ← hz21.1]; exact congrArg (fun z_ => (rt z_).toInt) (by omega)
      refine lv_aload_n hx hb dX11_word_39 rfl (lv_at hl 3 rfl) ?_
      refine lv_iload_n hx hb dX11_word_40 rfl (lv_at hl 0 rfl) ?_
      have hrv := vk_recv hE0.2.2.2.2.2.2.2.2.2.1 (i := 0) (by decide) h.2.2.1
      refine k_i (r_VK C h hl (As := [.int 0]) (rest := [.int z21]) (c_charAt l D G b0 f3 0 (by decide) 0 (by decide) (by unfold vp_in; decide)) hrv mk_J0_charAt_5068e w_1575 w_473 w_474 w_475 ⟨(Nat.le_of_ble_eq_true rfl), (Nat.le_of_ble_eq_true rfl)⟩ rfl (Nat.le_of_ble_eq_true rfl) ⟨(Nat.le_of_ble_eq_true rfl), (Nat.le_of_ble_eq_true rfl)⟩ rfl dX11_word_41) h (fun r22 f23 H locs p24 h => ?_)
      obtain ⟨er22, rfl⟩ := p24
      obtain rfl : (110 : Int32) = r22 := by rw [er22]; decide
      refine lv_icmp_eq (tgt := 49) hx hb dX11_word_44 (by decide) (fun c25 => ?_) (fun c25 => ?_)
      · have c26 : z21.toInt = 110 := congrArg Int32.toInt c25
        have i27 : iv z21 110 110 := iv_Q c26 iz21 (iv_k (x := 110) (k := 110) rfl) (by decide)
        refine lv_iinc (v := 1) (lv' := [(3, .int 1), (2, .int r2), (0, .ref u0), (1, .ref (G (20 + 0)))]) hx hb dX11_word_49 hl (k := 0) rfl (by decide) (by decide) rfl (fun ls hl => ?_)
        refine lv_goto (tgt := 7) hx hb dX11_word_52 (by decide) ?_
        refine lv_iload_n hx hb dX11_word_7 rfl (lv_at hl 0 rfl) ?_
        refine lv_aload_n hx hb dX11_word_8 rfl (lv_at hl 3 rfl) ?_
        have hrv := vk_recv hE0.2.2.2.2.2.2.2.2.2.1 (i := 0) (by decide) h.2.2.1
        refine k_i (r_VK C h hl (As := []) (rest := [.int 1]) (c_length l D G b0 f3 0 (by decide)) hrv mk_J0_length_8abf5 w_1574 w_1252 w_1253 w_1254 ⟨(Nat.le_of_ble_eq_true rfl), (Nat.le_of_ble_eq_true rfl)⟩ rfl (Nat.le_of_ble_eq_true rfl) ⟨(Nat.le_of_ble_eq_true rfl), (Nat.le_of_ble_eq_true rfl)⟩ rfl dX11_word_9) h (fun r29 f30 H locs p31 h => ?_)
        obtain ⟨er29, rfl⟩ := p31
        obtain rfl : (1 : Int32) = r29 := by rw [er29]; decide
        refine lv_icmp_ge (tgt := 55) hx hb dX11_word_12 (by decide) (fun c32 => ?_) (fun c32 => ?_)
        · refine lv_aload_n hx hb dX11_word_55 rfl (lv_at hl 2 rfl) ?_
          refine t_getfd C h tf3 hu0 (by decide) wf_60 (v := .int aa1_f3) kpu0_3f3 fl_X11_90 dX11_word_56 ?_
          refine lv_aload_n hx hb dX11_word_59 rfl (lv_at hl 3 rfl) ?_
          have hrv := vk_recv hE0.2.2.2.2.2.2.2.2.2.1 (i := 0) (by decide) h.2.2.1
          refine k_i (r_VK C h hl (As := []) (rest := [.int aa1_f3]) (c_length l D G b0 f3 0 (by decide)) hrv mk_J0_length_8abf5 w_1574 w_1252 w_1253 w_1254 ⟨(Nat.le_of_ble_eq_true rfl), (Nat.le_of_ble_eq_true rfl)⟩ rfl (Nat.le_of_ble_eq_true rfl) ⟨(Nat.le_of_ble_eq_true rfl), (Nat.le_of_ble_eq_true rfl)⟩ rfl dX11_word_60) h (fun r35 f36 H locs p37 h => ?_)
          obtain ⟨er35, rfl⟩ := p37
          obtain rfl : (1 : Int32) = r35 := by rw [er35]; decide
          refine i_addk hx hb dX11_word_63 ipu0_3f3 (k := 1) rfl (lo := 1) (hi := 201) (by decide) (fun z38 ez38 mz38 iz38 => ?_)
          refine lv_istore_n (lv' := [(3, .int z38), (2, .int r2), (0, .ref u0), (1, .ref (G (20 + 0)))]) hx hb dX11_word_64 rfl hl (by decide) rfl (fun ls hl => ?_)
          refine lv_iload_n hx hb dX11_word_65 rfl (lv_at hl 0 rfl) ?_
          refine lv_aload_n hx hb dX11_word_66 rfl (lv_at hl 2 rfl) ?_
          refine t_getfd C h tf3 hu0 (by decide) wf_60 (v := .int ln) k5 fl_X11_79 dX11_word_67 ?_
          refine lv_icmp_ge (tgt := 97) hx hb dX11_word_70 (by decide) (fun c39 => ?_) (fun c39 => ?_)
          · have c40 : ln.toInt ≤ z38.toInt := Int32.le_iff_toInt_le.mp c39
            refine lv_aload_n hx hb dX11_word_97 rfl (lv_at hl 2 rfl) ?_
            refine lv_iload_n hx hb dX11_word_98 rfl (lv_at hl 0 rfl) ?_
            refine t_put C h tf3 of3 hu0 (by decide) (by decide) (by decide) wf_60 fw_60 (k := 3) rfl flw_X11_90 (Or.inr ⟨_, _, _, rfl, rfl⟩) (v := .int z38) rfl rfl ⟨_, rfl, (show iv z38 0 200 from by omega)⟩ dX11_word_99 (fun f44 H locs h tf44 of44 hq ha_ hn_ hk_ => ?_)
            have k45 := hk_ 2 _ (by decide) k5
            have k46 := hk_ 1 _ (by decide) k6
            have k47 := atp.tg k7 hq htq (by decide)
            have k49 := ha_
            refine lv_iconst (v := 1) hx hb dX11_word_102 (by decide) ?_
            exact u_zret C h hr hQ ⟨by decide, by decide⟩ (⟨⟨by decide, by decide⟩, tf44, of44, (fun _ => ⟨by omega, by omega, by omega⟩), (fun h_ => absurd h_ (by decide)), ⟨z38, k49, (show iv z38 0 200 from by omega), (by have n1_ : (1 : Int32).toInt = 1 := rfl; have n0_ : (0 : Int32).toInt = 0 := rfl; omega)⟩⟩) (Nat.le_of_ble_eq_true rfl) (Nat.le_of_ble_eq_true rfl) dX11_word_103
          · have c41 : z38.toInt < ln.toInt := Int32.lt_iff_toInt_lt.mp (iv_nle c39)
            have i42 : iv z38 1 199 := iv_Ll c41 iz38 i19 (by decide)
            have i43 : iv ln 2 200 := iv_Lr c41 iz38 i19 (by decide)
            refine lv_aload_n hx hb dX11_word_73 rfl (lv_at hl 2 rfl) ?_
            refine t_getfd C h tf3 hu0 (by decide) wf_60 (v := .ref tq) k6 fl_X11_9 dX11_word_74 ?_
            refine lv_iload_n hx hb dX11_word_77 rfl (lv_at hl 0 rfl) ?_
            refine e_bald C h tf3 htq (by decide) wf_61 k7 (iv_in i42 (by decide)) dX11_word_78 (fun z50 ez50 iz50 => ?_)
            have mz50 := congrArg Int32.toInt ez50
            have hz50 := hB ((rn 32 32 B ln.toInt.toNat aa.toInt.toNat) + 1) (by omega)
            have sz50 := sg_c hz50.2
            have qz50 : z50.toInt = sg (B ((rn 32 32 B ln.toInt.toNat aa.toInt.toNat) + 1)) := by rw [mz50, ← hz50.1]; exact congrArg (fun z_ => (rt z_).toInt) (by omega)
            refine lv_bipush (v := 97) hx hb dX11_word_79 (by decide) ?_
            refine lv_icmp_lt (tgt := 97) hx hb dX11_word_81 (by decide) (fun c51 => ?_) (fun c51 => ?_)
            · have c52 : z50.toInt < 97 := Int32.lt_iff_toInt_lt.mp c51
              have i53 : iv z50 (-128) 96 := iv_Ll c52 iz50 (iv_k (x := 97) (k := 97) rfl) (by decide)
              refine lv_aload_n hx hb dX11_word_97 rfl (lv_at hl 2 rfl) ?_
              refine lv_iload_n hx hb dX11_word_98 rfl (lv_at hl 0 rfl) ?_
              refine t_put C h tf3 of3 hu0 (by decide) (by decide) (by decide) wf_60 fw_60 (k := 3) rfl flw_X11_90 (Or.inr ⟨_, _, _, rfl, rfl⟩) (v := .int z38) rfl rfl ⟨_, rfl, (iv_w i42 (by decide))⟩ dX11_word_99 (fun f56 H locs h tf56 of56 hq ha_ hn_ hk_ => ?_)
              have k57 := hk_ 2 _ (by decide) k5
              have k58 := hk_ 1 _ (by decide) k6
              have k59 := atp.tg k7 hq htq (by decide)
              have k61 := ha_
              refine lv_iconst (v := 1) hx hb dX11_word_102 (by decide) ?_
              exact u_zret C h hr hQ ⟨by decide, by decide⟩ (⟨⟨by decide, by decide⟩, tf56, of56, (fun _ => ⟨by omega, by omega, by omega⟩), (fun h_ => absurd h_ (by decide)), ⟨z38, k61, (iv_w i42 (by decide)), (by have n1_ : (1 : Int32).toInt = 1 := rfl; have n0_ : (0 : Int32).toInt = 0 := rfl; omega)⟩⟩) (Nat.le_of_ble_eq_true rfl) (Nat.le_of_ble_eq_true rfl) dX11_word_103
            · have c54 : 97 ≤ z50.toInt := Int32.le_iff_toInt_le.mp (iv_nlt c51)
              have i55 : iv z50 97 127 := iv_Er c54 (iv_k (x := 97) (k := 97) rfl) iz50 (by decide)
              refine lv_aload_n hx hb dX11_word_84 rfl (lv_at hl 2 rfl) ?_
              refine t_getfd C h tf3 hu0 (by decide) wf_60 (v := .ref tq) k6 fl_X11_9 dX11_word_85 ?_
              refine lv_iload_n hx hb dX11_word_88 rfl (lv_at hl 0 rfl) ?_
              refine e_bald C h tf3 htq (by decide) wf_61 k7 (iv_in i42 (by decide)) dX11_word_89 (fun z62 ez62 iz62 => ?_)
              have mz62 := congrArg Int32.toInt ez62
              have hz62 := hB ((rn 32 32 B ln.toInt.toNat aa.toInt.toNat) + 1) (by omega)
              have sz62 := sg_c hz62.2
              have qz62 : z62.toInt = sg (B ((rn 32 32 B ln.toInt.toNat aa.toInt.toNat) + 1)) := by rw [mz62, ← hz62.1]; exact congrArg (fun z_ => (rt z_).toInt) (by omega)
              refine lv_bipush (v := 122) hx hb dX11_word_90 (by decide) ?_
              refine lv_icmp_gt (tgt := 97) hx hb dX11_word_92 (by decide) (fun c63 => ?_) (fun c63 => ?_)
              · have c64 : 122 < z62.toInt := Int32.lt_iff_toInt_lt.mp c63
                have i65 : iv z62 123 127 := iv_Lr c64 (iv_k (x := 122) (k := 122) rfl) iz62 (by decide)
                refine lv_aload_n hx hb dX11_word_97 rfl (lv_at hl 2 rfl) ?_
                refine lv_iload_n hx hb dX11_word_98 rfl (lv_at hl 0 rfl) ?_
                refine t_put C h tf3 of3 hu0 (by decide) (by decide) (by decide) wf_60 fw_60 (k := 3) rfl flw_X11_90 (Or.inr ⟨_, _, _, rfl, rfl⟩) (v := .int z38) rfl rfl ⟨_, rfl, (iv_w i42 (by decide))⟩ dX11_word_99 (fun f68 H locs h tf68 of68 hq ha_ hn_ hk_ => ?_)
                have k69 := hk_ 2 _ (by decide) k5
                have k70 := hk_ 1 _ (by decide) k6
                have k71 := atp.tg k7 hq htq (by decide)
                have k73 := ha_
                refine lv_iconst (v := 1) hx hb dX11_word_102 (by decide) ?_
                exact u_zret C h hr hQ ⟨by decide, by decide⟩ (⟨⟨by decide, by decide⟩, tf68, of68, (fun _ => ⟨by omega, by omega, by omega⟩), (fun h_ => absurd h_ (by decide)), ⟨z38, k73, (iv_w i42 (by decide)), (by have n1_ : (1 : Int32).toInt = 1 := rfl; have n0_ : (0 : Int32).toInt = 0 := rfl; omega)⟩⟩) (Nat.le_of_ble_eq_true rfl) (Nat.le_of_ble_eq_true rfl) dX11_word_103
              · have c66 : z62.toInt ≤ 122 := Int32.le_iff_toInt_le.mp (iv_nlt c63)
                have i67 : iv z62 (-128) 122 := iv_El c66 iz62 (iv_k (x := 122) (k := 122) rfl) (by decide)
                refine lv_iconst (v := 0) hx hb dX11_word_95 (by decide) ?_
                exact u_zret C h hr hQ ⟨by decide, by decide⟩ (⟨⟨by decide, by decide⟩, tf3, of3, (fun h_ => absurd h_ (by decide)), (fun _ => (fun z_ => by obtain ⟨h1_, g0_, h9_⟩ := z_; omega)), ⟨aa1_f3, kpu0_3f3, ipu0_3f3, (by have n1_ : (1 : Int32).toInt = 1 := rfl; have n0_ : (0 : Int32).toInt = 0 := rfl; omega)⟩⟩) (Nat.le_of_ble_eq_true rfl) (Nat.le_of_ble_eq_true rfl) dX11_word_96
        · exact absurd c32 (by decide)
      · have c28 : z21.toInt ≠ 110 := fun z_ => c25 (Int32.toInt_inj.mp z_)
        refine lv_iconst (v := 0) hx hb dX11_word_47 (by decide) ?_
        exact u_zret C h hr hQ ⟨by decide, by decide⟩ (⟨⟨by decide, by decide⟩, tf3, of3, (fun h_ => absurd h_ (by decide)), (fun _ => (fun z_ => by obtain ⟨h1_, g0_, h9_⟩ := z_; omega)), ⟨aa1_f3, kpu0_3f3, ipu0_3f3, (by have n1_ : (1 : Int32).toInt = 1 := rfl; have n0_ : (0 : Int32).toInt = 0 := rfl; omega)⟩⟩) (Nat.le_of_ble_eq_true rfl) (Nat.le_of_ble_eq_true rfl) dX11_word_48
abbrev rm_s_X11_wordX1 : Room := { frames := 4, cells := 0, slots := 0, locals := 85 }
set_option maxRecDepth 100000 in
set_option maxHeartbeats 4000000 in
theorem s_X11_wordX1 (l : Launch) (D : va_G) (G : Nat → Nat) (b0 : Nat) (τ : Nat → Nat) (f : hM) (t : TI G 9 τ f) (u0 : Nat) (hu0 : τ u0 = 60) (ln : Int32) (hln : iv ln 0 200) (k_u0_2 : atp f u0 (fd 2 (.int ln))) (aa : Int32) (haa : iv aa 0 200) (k_u0_3 : atp f u0 (fd 3 (.int aa))) (tq : Nat) (htq : τ tq = 61) (k_u0_1 : atp f u0 (fd 1 (.ref tq))) (rt : Nat → Int32) (hRtq : atp f tq (eqc (.inl (G 0, 200, .inl rt)))) (B : Nat → Int) (hB : ∀ k : Nat, (k : Int) < ln.toInt → (rt k).toInt = sg (B k) ∧ 0 ≤ B k ∧ B k ≤ 255)  : mI l yX11_word cX11_word 4 (.boolean) rm_s_X11_wordX1 D G b0 f [.ref u0, .ref (G (20 + 1))] (fun r f1 => iv r 0 1 ∧ TI G 9 τ f1 ∧ Fr [60, 60004] τ f f1 ∧ (r.toInt ≠ 0 → (mw2 B ln.toInt.toNat (rn 32 32 B ln.toInt.toNat aa.toInt.toNat) 110 101)) ∧ (r.toInt = 0 → (¬ mw2 B ln.toInt.toNat (rn 32 32 B ln.toInt.toNat aa.toInt.toNat) 110 101)) ∧ (∃ aa1 : Int32, atp f1 u0 (fd 3 (.int aa1)) ∧ iv aa1 0 200 ∧ (r.toInt ≠ 0 → aa1.toInt = (((rn 32 32 B ln.toInt.toNat aa.toInt.toNat) : Nat) : Int) + 2) ∧ (r.toInt = 0 → aa1.toInt = (((rn 32 32 B ln.toInt.toNat aa.toInt.toNat) : Nat) : Int)))) := by
  refine met2 (own := RX11) (by decide) rfl (Nat.le_of_ble_eq_true rfl) ?_
  intro p e s m args below meth c ls Q hQ C hr hini hl h
  have hl : lv_has ls 4 [(0, .ref u0), (1, .ref (G (20 + 1)))] := hl
  obtain ⟨hx, hb, hml, hown, hts, hE0, hlk⟩ := id C
  have o := Fr.rf [60, 60004] τ f
  refine lv_aload_n hx hb dX11_word_0 rfl (lv_at hl 0 rfl) ?_
  obtain ⟨_, r1⟩ := t_rec t hu0 (by decide) wf_60
  refine k_i (r_V C h hl (As := []) (rest := []) (s_X11_lookX l D G b0 τ f t u0 hu0 ln hln k_u0_2 aa haa k_u0_3 tq htq k_u0_1 rt hRtq B hB) r1 (Cn := RX11) (T := TX11) (N := 32) rfl rfl mk_X11_look w_1557 w_1559 w_40 w_1560 ⟨Nat.le_of_ble_eq_true rfl, Nat.le_of_ble_eq_true rfl⟩ rfl (Nat.le_of_ble_eq_true rfl) ⟨Nat.le_of_ble_eq_true rfl, Nat.le_of_ble_eq_true rfl⟩ rfl dX11_word_1) h (fun r2 f3 H locs p4 h => ?_)
  obtain ⟨ir2, tf3, ogf3, x0r2, ⟨aa1_f3, kpu0_3f3, ipu0_3f3, rpu0_3f3⟩⟩ := p4
  have of3 : Fr [60, 60004] τ f f3 := Fr.tr o ogf3 (by decide) (by decide)
  have k5 := atp.fk k_u0_2 ogf3 hu0 (by decide) (by decide)
  have k6 := atp.fk k_u0_1 ogf3 hu0 (by decide) (by decide)
  have k7 := atp.fr hRtq ogf3 htq (by decide)
  refine lv_istore_n (lv' := [(2, .int r2), (0, .ref u0), (1, .ref (G (20 + 1)))]) hx hb dX11_word_4 rfl hl (by decide) rfl (fun ls hl => ?_)
  refine lv_iconst (v := 0) hx hb dX11_word_5 (by decide) ?_
  refine lv_istore_n (lv' := [(3, .int 0), (2, .int r2), (0, .ref u0), (1, .ref (G (20 + 1)))]) hx hb dX11_word_6 rfl hl (by decide) rfl (fun ls hl => ?_)
  refine lv_iload_n hx hb dX11_word_7 rfl (lv_at hl 0 rfl) ?_
  refine lv_aload_n hx hb dX11_word_8 rfl (lv_at hl 3 rfl) ?_
  have hrv := vk_recv hE0.2.2.2.2.2.2.2.2.2.1 (i := 1) (by decide) h.2.2.1
  refine k_i (r_VK C h hl (As := []) (rest := [.int 0]) (c_length l D G b0 f3 1 (by decide)) hrv mk_J0_length_8abf5 w_1574 w_1252 w_1253 w_1254 ⟨(Nat.le_of_ble_eq_true rfl), (Nat.le_of_ble_eq_true rfl)⟩ rfl (Nat.le_of_ble_eq_true rfl) ⟨(Nat.le_of_ble_eq_true rfl), (Nat.le_of_ble_eq_true rfl)⟩ rfl dX11_word_9) h (fun r8 f9 H locs p10 h => ?_)
  obtain ⟨er8, rfl⟩ := p10
  obtain rfl : (2 : Int32) = r8 := by rw [er8]; decide
  refine lv_icmp_ge (tgt := 55) hx hb dX11_word_12 (by decide) (fun c11 => ?_) (fun c11 => ?_)
  · exact absurd c11 (by decide)
  · refine lv_aload_n hx hb dX11_word_15 rfl (lv_at hl 2 rfl) ?_
    refine t_getfd C h tf3 hu0 (by decide) wf_60 (v := .int aa1_f3) kpu0_3f3 fl_X11_90 dX11_word_16 ?_
    refine lv_iload_n hx hb dX11_word_19 rfl (lv_at hl 0 rfl) ?_
    refine i_addk hx hb dX11_word_20 ipu0_3f3 (k := 0) rfl (lo := 0) (hi := 200) (by decide) (fun z14 ez14 mz14 iz14 => ?_)
    refine lv_aload_n hx hb dX11_word_21 rfl (lv_at hl 2 rfl) ?_
    refine t_getfd C h tf3 hu0 (by decide) wf_60 (v := .int ln) k5 fl_X11_79 dX11_word_22 ?_
    refine lv_icmp_ge (tgt := 47) hx hb dX11_word_25 (by decide) (fun c15 => ?_) (fun c15 => ?_)
    · have c16 : ln.toInt ≤ z14.toInt := Int32.le_iff_toInt_le.mp c15
      refine lv_iconst (v := 0) hx hb dX11_word_47 (by decide) ?_
      exact u_zret C h hr hQ ⟨by decide, by decide⟩ (⟨⟨by decide, by decide⟩, tf3, of3, (fun h_ => absurd h_ (by decide)), (fun _ => (fun z_ => by obtain ⟨h1_, g0_, g1_, h9_⟩ := z_; omega)), ⟨aa1_f3, kpu0_3f3, ipu0_3f3, (by have n1_ : (1 : Int32).toInt = 1 := rfl; have n0_ : (0 : Int32).toInt = 0 := rfl; omega)⟩⟩) (Nat.le_of_ble_eq_true rfl) (Nat.le_of_ble_eq_true rfl) dX11_word_48
    · have c17 : z14.toInt < ln.toInt := Int32.lt_iff_toInt_lt.mp (iv_nle c15)
      have i18 : iv z14 0 199 := iv_Ll c17 iz14 hln (by decide)
      have i19 : iv ln 1 200 := iv_Lr c17 iz14 hln (by decide)
      refine lv_aload_n hx hb dX11_word_28 rfl (lv_at hl 2 rfl) ?_
      refine t_getfd C h tf3 hu0 (by decide) wf_60 (v := .ref tq) k6 fl_X11_9 dX11_word_29 ?_
      refine lv_aload_n hx hb dX11_word_32 rfl (lv_at hl 2 rfl) ?_
      refine t_getfd C h tf3 hu0 (by decide) wf_60 (v := .int aa1_f3) kpu0_3f3 fl_X11_90 dX11_word_33 ?_
      refine lv_iload_n hx hb dX11_word_36 rfl (lv_at hl 0 rfl) ?_
      refine i_addk hx hb dX11_word_37 ipu0_3f3 (k := 0) rfl (lo := 0) (hi := 200) (by decide) (fun z20 ez20 mz20 iz20 => ?_)
      refine e_bald C h tf3 htq (by decide) wf_61 k7 (ix_o (by omega)) dX11_word_38 (fun z21 ez21 iz21 => ?_)
      have mz21 := congrArg Int32.toInt ez21
      have hz21 := hB (rn 32 32 B ln.toInt.toNat aa.toInt.toNat) (by omega)
      have sz21 := sg_c hz21.2
      have qz21 : z21.toInt = sg (B (rn 32 32 B ln.toInt.toNat aa.toInt.toNat)) := by rw [mz21, ← hz21.1]; exact congrArg (fun z_ => (rt z_).toInt) (by omega)
      refine lv_aload_n hx hb dX11_word_39 rfl (lv_at hl 3 rfl) ?_
      refine lv_iload_n hx hb dX11_word_40 rfl (lv_at hl 0 rfl) ?_
      have hrv := vk_recv hE0.2.2.2.2.2.2.2.2.2.1 (i := 1) (by decide) h.2.2.1
      refine k_i (r_VK C h hl (As := [.int 0]) (rest := [.int z21]) (c_charAt l D G b0 f3 1 (by decide) 0 (by decide) (by unfold vp_in; decide)) hrv mk_J0_charAt_5068e w_1575 w_473 w_474 w_475 ⟨(Nat.le_of_ble_eq_true rfl), (Nat.le_of_ble_eq_true rfl)⟩ rfl (Nat.le_of_ble_eq_true rfl) ⟨(Nat.le_of_ble_eq_true rfl), (Nat.le_of_ble_eq_true rfl)⟩ rfl dX11_word_41) h (fun r22 f23 H locs p24 h => ?_)
      obtain ⟨er22, rfl⟩ := p24
      obtain rfl : (110 : Int32) = r22 := by rw [er22]; decide
      refine lv_icmp_eq (tgt := 49) hx hb dX11_word_44 (by decide) (fun c25 => ?_) (fun c25 => ?_)
      · have c26 : z21.toInt = 110 := congrArg Int32.toInt c25
        have i27 : iv z21 110 110 := iv_Q c26 iz21 (iv_k (x := 110) (k := 110) rfl) (by decide)
        refine lv_iinc (v := 1) (lv' := [(3, .int 1), (2, .int r2), (0, .ref u0), (1, .ref (G (20 + 1)))]) hx hb dX11_word_49 hl (k := 0) rfl (by decide) (by decide) rfl (fun ls hl => ?_)
        refine lv_goto (tgt := 7) hx hb dX11_word_52 (by decide) ?_
        refine lv_iload_n hx hb dX11_word_7 rfl (lv_at hl 0 rfl) ?_
        refine lv_aload_n hx hb dX11_word_8 rfl (lv_at hl 3 rfl) ?_
        have hrv := vk_recv hE0.2.2.2.2.2.2.2.2.2.1 (i := 1) (by decide) h.2.2.1
        refine k_i (r_VK C h hl (As := []) (rest := [.int 1]) (c_length l D G b0 f3 1 (by decide)) hrv mk_J0_length_8abf5 w_1574 w_1252 w_1253 w_1254 ⟨(Nat.le_of_ble_eq_true rfl), (Nat.le_of_ble_eq_true rfl)⟩ rfl (Nat.le_of_ble_eq_true rfl) ⟨(Nat.le_of_ble_eq_true rfl), (Nat.le_of_ble_eq_true rfl)⟩ rfl dX11_word_9) h (fun r29 f30 H locs p31 h => ?_)
        obtain ⟨er29, rfl⟩ := p31
        obtain rfl : (2 : Int32) = r29 := by rw [er29]; decide
        refine lv_icmp_ge (tgt := 55) hx hb dX11_word_12 (by decide) (fun c32 => ?_) (fun c32 => ?_)
        · exact absurd c32 (by decide)
        · refine lv_aload_n hx hb dX11_word_15 rfl (lv_at hl 2 rfl) ?_
          refine t_getfd C h tf3 hu0 (by decide) wf_60 (v := .int aa1_f3) kpu0_3f3 fl_X11_90 dX11_word_16 ?_
          refine lv_iload_n hx hb dX11_word_19 rfl (lv_at hl 0 rfl) ?_
          refine i_addk hx hb dX11_word_20 ipu0_3f3 (k := 1) rfl (lo := 1) (hi := 201) (by decide) (fun z35 ez35 mz35 iz35 => ?_)
          refine lv_aload_n hx hb dX11_word_21 rfl (lv_at hl 2 rfl) ?_
          refine t_getfd C h tf3 hu0 (by decide) wf_60 (v := .int ln) k5 fl_X11_79 dX11_word_22 ?_
          refine lv_icmp_ge (tgt := 47) hx hb dX11_word_25 (by decide) (fun c36 => ?_) (fun c36 => ?_)
          · have c37 : ln.toInt ≤ z35.toInt := Int32.le_iff_toInt_le.mp c36
            refine lv_iconst (v := 0) hx hb dX11_word_47 (by decide) ?_
            exact u_zret C h hr hQ ⟨by decide, by decide⟩ (⟨⟨by decide, by decide⟩, tf3, of3, (fun h_ => absurd h_ (by decide)), (fun _ => (fun z_ => by obtain ⟨h1_, g0_, g1_, h9_⟩ := z_; omega)), ⟨aa1_f3, kpu0_3f3, ipu0_3f3, (by have n1_ : (1 : Int32).toInt = 1 := rfl; have n0_ : (0 : Int32).toInt = 0 := rfl; omega)⟩⟩) (Nat.le_of_ble_eq_true rfl) (Nat.le_of_ble_eq_true rfl) dX11_word_48
          · have c38 : z35.toInt < ln.toInt := Int32.lt_iff_toInt_lt.mp (iv_nle c36)
            have i39 : iv z35 1 199 := iv_Ll c38 iz35 i19 (by decide)
            have i40 : iv ln 2 200 := iv_Lr c38 iz35 i19 (by decide)
            refine lv_aload_n hx hb dX11_word_28 rfl (lv_at hl 2 rfl) ?_
            refine t_getfd C h tf3 hu0 (by decide) wf_60 (v := .ref tq) k6 fl_X11_9 dX11_word_29 ?_
            refine lv_aload_n hx hb dX11_word_32 rfl (lv_at hl 2 rfl) ?_
            refine t_getfd C h tf3 hu0 (by decide) wf_60 (v := .int aa1_f3) kpu0_3f3 fl_X11_90 dX11_word_33 ?_
            refine lv_iload_n hx hb dX11_word_36 rfl (lv_at hl 0 rfl) ?_
            refine i_addk hx hb dX11_word_37 ipu0_3f3 (k := 1) rfl (lo := 1) (hi := 201) (by decide) (fun z41 ez41 mz41 iz41 => ?_)
            refine e_bald C h tf3 htq (by decide) wf_61 k7 (ix_o (by omega)) dX11_word_38 (fun z42 ez42 iz42 => ?_)
            have mz42 := congrArg Int32.toInt ez42
            have hz42 := hB ((rn 32 32 B ln.toInt.toNat aa.toInt.toNat) + 1) (by omega)
            have sz42 := sg_c hz42.2
            have qz42 : z42.toInt = sg (B ((rn 32 32 B ln.toInt.toNat aa.toInt.toNat) + 1)) := by rw [mz42, ← hz42.1]; exact congrArg (fun z_ => (rt z_).toInt) (by omega)
            refine lv_aload_n hx hb dX11_word_39 rfl (lv_at hl 3 rfl) ?_
            refine lv_iload_n hx hb dX11_word_40 rfl (lv_at hl 0 rfl) ?_
            have hrv := vk_recv hE0.2.2.2.2.2.2.2.2.2.1 (i := 1) (by decide) h.2.2.1
            refine k_i (r_VK C h hl (As := [.int 1]) (rest := [.int z42]) (c_charAt l D G b0 f3 1 (by decide) 1 (by decide) (by unfold vp_in; decide)) hrv mk_J0_charAt_5068e w_1575 w_473 w_474 w_475 ⟨(Nat.le_of_ble_eq_true rfl), (Nat.le_of_ble_eq_true rfl)⟩ rfl (Nat.le_of_ble_eq_true rfl) ⟨(Nat.le_of_ble_eq_true rfl), (Nat.le_of_ble_eq_true rfl)⟩ rfl dX11_word_41) h (fun r43 f44 H locs p45 h => ?_)
            obtain ⟨er43, rfl⟩ := p45
            obtain rfl : (101 : Int32) = r43 := by rw [er43]; decide
            refine lv_icmp_eq (tgt := 49) hx hb dX11_word_44 (by decide) (fun c46 => ?_) (fun c46 => ?_)
            · have c47 : z42.toInt = 101 := congrArg Int32.toInt c46
              have i48 : iv z42 101 101 := iv_Q c47 iz42 (iv_k (x := 101) (k := 101) rfl) (by decide)
              refine lv_iinc (v := 2) (lv' := [(3, .int 2), (2, .int r2), (0, .ref u0), (1, .ref (G (20 + 1)))]) hx hb dX11_word_49 hl (k := 0) rfl (by decide) (by decide) rfl (fun ls hl => ?_)
              refine lv_goto (tgt := 7) hx hb dX11_word_52 (by decide) ?_
              refine lv_iload_n hx hb dX11_word_7 rfl (lv_at hl 0 rfl) ?_
              refine lv_aload_n hx hb dX11_word_8 rfl (lv_at hl 3 rfl) ?_
              have hrv := vk_recv hE0.2.2.2.2.2.2.2.2.2.1 (i := 1) (by decide) h.2.2.1
              refine k_i (r_VK C h hl (As := []) (rest := [.int 2]) (c_length l D G b0 f3 1 (by decide)) hrv mk_J0_length_8abf5 w_1574 w_1252 w_1253 w_1254 ⟨(Nat.le_of_ble_eq_true rfl), (Nat.le_of_ble_eq_true rfl)⟩ rfl (Nat.le_of_ble_eq_true rfl) ⟨(Nat.le_of_ble_eq_true rfl), (Nat.le_of_ble_eq_true rfl)⟩ rfl dX11_word_9) h (fun r50 f51 H locs p52 h => ?_)
              obtain ⟨er50, rfl⟩ := p52
              obtain rfl : (2 : Int32) = r50 := by rw [er50]; decide
              refine lv_icmp_ge (tgt := 55) hx hb dX11_word_12 (by decide) (fun c53 => ?_) (fun c53 => ?_)
              · refine lv_aload_n hx hb dX11_word_55 rfl (lv_at hl 2 rfl) ?_
                refine t_getfd C h tf3 hu0 (by decide) wf_60 (v := .int aa1_f3) kpu0_3f3 fl_X11_90 dX11_word_56 ?_
                refine lv_aload_n hx hb dX11_word_59 rfl (lv_at hl 3 rfl) ?_
                have hrv := vk_recv hE0.2.2.2.2.2.2.2.2.2.1 (i := 1) (by decide) h.2.2.1
                refine k_i (r_VK C h hl (As := []) (rest := [.int aa1_f3]) (c_length l D G b0 f3 1 (by decide)) hrv mk_J0_length_8abf5 w_1574 w_1252 w_1253 w_1254 ⟨(Nat.le_of_ble_eq_true rfl), (Nat.le_of_ble_eq_true rfl)⟩ rfl (Nat.le_of_ble_eq_true rfl) ⟨(Nat.le_of_ble_eq_true rfl), (Nat.le_of_ble_eq_true rfl)⟩ rfl dX11_word_60) h (fun r56 f57 H locs p58 h => ?_)
                obtain ⟨er56, rfl⟩ := p58
                obtain rfl : (2 : Int32) = r56 := by rw [er56]; decide
                refine i_addk hx hb dX11_word_63 ipu0_3f3 (k := 2) rfl (lo := 2) (hi := 202) (by decide) (fun z59 ez59 mz59 iz59 => ?_)
                refine lv_istore_n (lv' := [(3, .int z59), (2, .int r2), (0, .ref u0), (1, .ref (G (20 + 1)))]) hx hb dX11_word_64 rfl hl (by decide) rfl (fun ls hl => ?_)
                refine lv_iload_n hx hb dX11_word_65 rfl (lv_at hl 0 rfl) ?_
                refine lv_aload_n hx hb dX11_word_66 rfl (lv_at hl 2 rfl) ?_
                refine t_getfd C h tf3 hu0 (by decide) wf_60 (v := .int ln) k5 fl_X11_79 dX11_word_67 ?_
                refine lv_icmp_ge (tgt := 97) hx hb dX11_word_70 (by decide) (fun c60 => ?_) (fun c60 => ?_)
                · have c61 : ln.toInt ≤ z59.toInt := Int32.le_iff_toInt_le.mp c60
                  refine lv_aload_n hx hb dX11_word_97 rfl (lv_at hl 2 rfl) ?_
                  refine lv_iload_n hx hb dX11_word_98 rfl (lv_at hl 0 rfl) ?_
                  refine t_put C h tf3 of3 hu0 (by decide) (by decide) (by decide) wf_60 fw_60 (k := 3) rfl flw_X11_90 (Or.inr ⟨_, _, _, rfl, rfl⟩) (v := .int z59) rfl rfl ⟨_, rfl, (show iv z59 0 200 from by omega)⟩ dX11_word_99 (fun f65 H locs h tf65 of65 hq ha_ hn_ hk_ => ?_)
                  have k66 := hk_ 2 _ (by decide) k5
                  have k67 := hk_ 1 _ (by decide) k6
                  have k68 := atp.tg k7 hq htq (by decide)
                  have k70 := ha_
                  refine lv_iconst (v := 1) hx hb dX11_word_102 (by decide) ?_
                  exact u_zret C h hr hQ ⟨by decide, by decide⟩ (⟨⟨by decide, by decide⟩, tf65, of65, (fun _ => ⟨by omega, by omega, by omega, by omega⟩), (fun h_ => absurd h_ (by decide)), ⟨z59, k70, (show iv z59 0 200 from by omega), (by have n1_ : (1 : Int32).toInt = 1 := rfl; have n0_ : (0 : Int32).toInt = 0 := rfl; omega)⟩⟩) (Nat.le_of_ble_eq_true rfl) (Nat.le_of_ble_eq_true rfl) dX11_word_103
                · have c62 : z59.toInt < ln.toInt := Int32.lt_iff_toInt_lt.mp (iv_nle c60)
                  have i63 : iv z59 2 199 := iv_Ll c62 iz59 i40 (by decide)
                  have i64 : iv ln 3 200 := iv_Lr c62 iz59 i40 (by decide)
                  refine lv_aload_n hx hb dX11_word_73 rfl (lv_at hl 2 rfl) ?_
                  refine t_getfd C h tf3 hu0 (by decide) wf_60 (v := .ref tq) k6 fl_X11_9 dX11_word_74 ?_
                  refine lv_iload_n hx hb dX11_word_77 rfl (lv_at hl 0 rfl) ?_
                  refine e_bald C h tf3 htq (by decide) wf_61 k7 (iv_in i63 (by decide)) dX11_word_78 (fun z71 ez71 iz71 => ?_)
                  have mz71 := congrArg Int32.toInt ez71
                  have hz71 := hB ((rn 32 32 B ln.toInt.toNat aa.toInt.toNat) + 2) (by omega)
                  have sz71 := sg_c hz71.2
                  have qz71 : z71.toInt = sg (B ((rn 32 32 B ln.toInt.toNat aa.toInt.toNat) + 2)) := by rw [mz71, ← hz71.1]; exact congrArg (fun z_ => (rt z_).toInt) (by omega)
                  refine lv_bipush (v := 97) hx hb dX11_word_79 (by decide) ?_
                  refine lv_icmp_lt (tgt := 97) hx hb dX11_word_81 (by decide) (fun c72 => ?_) (fun c72 => ?_)
                  · have c73 : z71.toInt < 97 := Int32.lt_iff_toInt_lt.mp c72
                    have i74 : iv z71 (-128) 96 := iv_Ll c73 iz71 (iv_k (x := 97) (k := 97) rfl) (by decide)
                    refine lv_aload_n hx hb dX11_word_97 rfl (lv_at hl 2 rfl) ?_
                    refine lv_iload_n hx hb dX11_word_98 rfl (lv_at hl 0 rfl) ?_
                    refine t_put C h tf3 of3 hu0 (by decide) (by decide) (by decide) wf_60 fw_60 (k := 3) rfl flw_X11_90 (Or.inr ⟨_, _, _, rfl, rfl⟩) (v := .int z59) rfl rfl ⟨_, rfl, (iv_w i63 (by decide))⟩ dX11_word_99 (fun f77 H locs h tf77 of77 hq ha_ hn_ hk_ => ?_)
                    have k78 := hk_ 2 _ (by decide) k5
                    have k79 := hk_ 1 _ (by decide) k6
                    have k80 := atp.tg k7 hq htq (by decide)
                    have k82 := ha_
                    refine lv_iconst (v := 1) hx hb dX11_word_102 (by decide) ?_
                    exact u_zret C h hr hQ ⟨by decide, by decide⟩ (⟨⟨by decide, by decide⟩, tf77, of77, (fun _ => ⟨by omega, by omega, by omega, by omega⟩), (fun h_ => absurd h_ (by decide)), ⟨z59, k82, (iv_w i63 (by decide)), (by have n1_ : (1 : Int32).toInt = 1 := rfl; have n0_ : (0 : Int32).toInt = 0 := rfl; omega)⟩⟩) (Nat.le_of_ble_eq_true rfl) (Nat.le_of_ble_eq_true rfl) dX11_word_103
                  · have c75 : 97 ≤ z71.toInt := Int32.le_iff_toInt_le.mp (iv_nlt c72)
                    have i76 : iv z71 97 127 := iv_Er c75 (iv_k (x := 97) (k := 97) rfl) iz71 (by decide)
                    refine lv_aload_n hx hb dX11_word_84 rfl (lv_at hl 2 rfl) ?_
                    refine t_getfd C h tf3 hu0 (by decide) wf_60 (v := .ref tq) k6 fl_X11_9 dX11_word_85 ?_
                    refine lv_iload_n hx hb dX11_word_88 rfl (lv_at hl 0 rfl) ?_
                    refine e_bald C h tf3 htq (by decide) wf_61 k7 (iv_in i63 (by decide)) dX11_word_89 (fun z83 ez83 iz83 => ?_)
                    have mz83 := congrArg Int32.toInt ez83
                    have hz83 := hB ((rn 32 32 B ln.toInt.toNat aa.toInt.toNat) + 2) (by omega)
                    have sz83 := sg_c hz83.2
                    have qz83 : z83.toInt = sg (B ((rn 32 32 B ln.toInt.toNat aa.toInt.toNat) + 2)) := by rw [mz83, ← hz83.1]; exact congrArg (fun z_ => (rt z_).toInt) (by omega)
                    refine lv_bipush (v := 122) hx hb dX11_word_90 (by decide) ?_
                    refine lv_icmp_gt (tgt := 97) hx hb dX11_word_92 (by decide) (fun c84 => ?_) (fun c84 => ?_)
                    · have c85 : 122 < z83.toInt := Int32.lt_iff_toInt_lt.mp c84
                      have i86 : iv z83 123 127 := iv_Lr c85 (iv_k (x := 122) (k := 122) rfl) iz83 (by decide)
                      refine lv_aload_n hx hb dX11_word_97 rfl (lv_at hl 2 rfl) ?_
                      refine lv_iload_n hx hb dX11_word_98 rfl (lv_at hl 0 rfl) ?_
                      refine t_put C h tf3 of3 hu0 (by decide) (by decide) (by decide) wf_60 fw_60 (k := 3) rfl flw_X11_90 (Or.inr ⟨_, _, _, rfl, rfl⟩) (v := .int z59) rfl rfl ⟨_, rfl, (iv_w i63 (by decide))⟩ dX11_word_99 (fun f89 H locs h tf89 of89 hq ha_ hn_ hk_ => ?_)
                      have k90 := hk_ 2 _ (by decide) k5
                      have k91 := hk_ 1 _ (by decide) k6
                      have k92 := atp.tg k7 hq htq (by decide)
                      have k94 := ha_
                      refine lv_iconst (v := 1) hx hb dX11_word_102 (by decide) ?_
                      exact u_zret C h hr hQ ⟨by decide, by decide⟩ (⟨⟨by decide, by decide⟩, tf89, of89, (fun _ => ⟨by omega, by omega, by omega, by omega⟩), (fun h_ => absurd h_ (by decide)), ⟨z59, k94, (iv_w i63 (by decide)), (by have n1_ : (1 : Int32).toInt = 1 := rfl; have n0_ : (0 : Int32).toInt = 0 := rfl; omega)⟩⟩) (Nat.le_of_ble_eq_true rfl) (Nat.le_of_ble_eq_true rfl) dX11_word_103
                    · have c87 : z83.toInt ≤ 122 := Int32.le_iff_toInt_le.mp (iv_nlt c84)
                      have i88 : iv z83 (-128) 122 := iv_El c87 iz83 (iv_k (x := 122) (k := 122) rfl) (by decide)
                      refine lv_iconst (v := 0) hx hb dX11_word_95 (by decide) ?_
                      exact u_zret C h hr hQ ⟨by decide, by decide⟩ (⟨⟨by decide, by decide⟩, tf3, of3, (fun h_ => absurd h_ (by decide)), (fun _ => (fun z_ => by obtain ⟨h1_, g0_, g1_, h9_⟩ := z_; omega)), ⟨aa1_f3, kpu0_3f3, ipu0_3f3, (by have n1_ : (1 : Int32).toInt = 1 := rfl; have n0_ : (0 : Int32).toInt = 0 := rfl; omega)⟩⟩) (Nat.le_of_ble_eq_true rfl) (Nat.le_of_ble_eq_true rfl) dX11_word_96
              · exact absurd c53 (by decide)
            · have c49 : z42.toInt ≠ 101 := fun z_ => c46 (Int32.toInt_inj.mp z_)
              refine lv_iconst (v := 0) hx hb dX11_word_47 (by decide) ?_
              exact u_zret C h hr hQ ⟨by decide, by decide⟩ (⟨⟨by decide, by decide⟩, tf3, of3, (fun h_ => absurd h_ (by decide)), (fun _ => (fun z_ => by obtain ⟨h1_, g0_, g1_, h9_⟩ := z_; omega)), ⟨aa1_f3, kpu0_3f3, ipu0_3f3, (by have n1_ : (1 : Int32).toInt = 1 := rfl; have n0_ : (0 : Int32).toInt = 0 := rfl; omega)⟩⟩) (Nat.le_of_ble_eq_true rfl) (Nat.le_of_ble_eq_true rfl) dX11_word_48
      · have c28 : z21.toInt ≠ 110 := fun z_ => c25 (Int32.toInt_inj.mp z_)
        refine lv_iconst (v := 0) hx hb dX11_word_47 (by decide) ?_
        exact u_zret C h hr hQ ⟨by decide, by decide⟩ (⟨⟨by decide, by decide⟩, tf3, of3, (fun h_ => absurd h_ (by decide)), (fun _ => (fun z_ => by obtain ⟨h1_, g0_, g1_, h9_⟩ := z_; omega)), ⟨aa1_f3, kpu0_3f3, ipu0_3f3, (by have n1_ : (1 : Int32).toInt = 1 := rfl; have n0_ : (0 : Int32).toInt = 0 := rfl; omega)⟩⟩) (Nat.le_of_ble_eq_true rfl) (Nat.le_of_ble_eq_true rfl) dX11_word_48
abbrev rm_s_X11_wordX2 : Room := { frames := 4, cells := 0, slots := 0, locals := 85 }
set_option maxRecDepth 100000 in
set_option maxHeartbeats 4000000 in
theorem s_X11_wordX2 (l : Launch) (D : va_G) (G : Nat → Nat) (b0 : Nat) (τ : Nat → Nat) (f : hM) (t : TI G 9 τ f) (u0 : Nat) (hu0 : τ u0 = 60) (ln : Int32) (hln : iv ln 0 200) (k_u0_2 : atp f u0 (fd 2 (.int ln))) (aa : Int32) (haa : iv aa 0 200) (k_u0_3 : atp f u0 (fd 3 (.int aa))) (tq : Nat) (htq : τ tq = 61) (k_u0_1 : atp f u0 (fd 1 (.ref tq))) (rt : Nat → Int32) (hRtq : atp f tq (eqc (.inl (G 0, 200, .inl rt)))) (B : Nat → Int) (hB : ∀ k : Nat, (k : Int) < ln.toInt → (rt k).toInt = sg (B k) ∧ 0 ≤ B k ∧ B k ≤ 255)  : mI l yX11_word cX11_word 4 (.boolean) rm_s_X11_wordX2 D G b0 f [.ref u0, .ref (G (20 + 2))] (fun r f1 => iv r 0 1 ∧ TI G 9 τ f1 ∧ Fr [60, 60004] τ f f1 ∧ (r.toInt ≠ 0 → (mw1 B ln.toInt.toNat (rn 32 32 B ln.toInt.toNat aa.toInt.toNat) 101)) ∧ (r.toInt = 0 → (¬ mw1 B ln.toInt.toNat (rn 32 32 B ln.toInt.toNat aa.toInt.toNat) 101)) ∧ (∃ aa1 : Int32, atp f1 u0 (fd 3 (.int aa1)) ∧ iv aa1 0 200 ∧ (r.toInt ≠ 0 → aa1.toInt = (((rn 32 32 B ln.toInt.toNat aa.toInt.toNat) : Nat) : Int) + 1) ∧ (r.toInt = 0 → aa1.toInt = (((rn 32 32 B ln.toInt.toNat aa.toInt.toNat) : Nat) : Int)))) := by
  refine met2 (own := RX11) (by decide) rfl (Nat.le_of_ble_eq_true rfl) ?_
  intro p e s m args below meth c ls Q hQ C hr hini hl h
  have hl : lv_has ls 4 [(0, .ref u0), (1, .ref (G (20 + 2)))] := hl
  obtain ⟨hx, hb, hml, hown, hts, hE0, hlk⟩ := id C
  have o := Fr.rf [60, 60004] τ f
  refine lv_aload_n hx hb dX11_word_0 rfl (lv_at hl 0 rfl) ?_
  obtain ⟨_, r1⟩ := t_rec t hu0 (by decide) wf_60
  refine k_i (r_V C h hl (As := []) (rest := []) (s_X11_lookX l D G b0 τ f t u0 hu0 ln hln k_u0_2 aa haa k_u0_3 tq htq k_u0_1 rt hRtq B hB) r1 (Cn := RX11) (T := TX11) (N := 32) rfl rfl mk_X11_look w_1557 w_1559 w_40 w_1560 ⟨Nat.le_of_ble_eq_true rfl, Nat.le_of_ble_eq_true rfl⟩ rfl (Nat.le_of_ble_eq_true rfl) ⟨Nat.le_of_ble_eq_true rfl, Nat.le_of_ble_eq_true rfl⟩ rfl dX11_word_1) h (fun r2 f3 H locs p4 h => ?_)
  obtain ⟨ir2, tf3, ogf3, x0r2, ⟨aa1_f3, kpu0_3f3, ipu0_3f3, rpu0_3f3⟩⟩ := p4
  have of3 : Fr [60, 60004] τ f f3 := Fr.tr o ogf3 (by decide) (by decide)
  have k5 := atp.fk k_u0_2 ogf3 hu0 (by decide) (by decide)
  have k6 := atp.fk k_u0_1 ogf3 hu0 (by decide) (by decide)
  have k7 := atp.fr hRtq ogf3 htq (by decide)
  refine lv_istore_n (lv' := [(2, .int r2), (0, .ref u0), (1, .ref (G (20 + 2)))]) hx hb dX11_word_4 rfl hl (by decide) rfl (fun ls hl => ?_)
  refine lv_iconst (v := 0) hx hb dX11_word_5 (by decide) ?_
  refine lv_istore_n (lv' := [(3, .int 0), (2, .int r2), (0, .ref u0), (1, .ref (G (20 + 2)))]) hx hb dX11_word_6 rfl hl (by decide) rfl (fun ls hl => ?_)
  refine lv_iload_n hx hb dX11_word_7 rfl (lv_at hl 0 rfl) ?_
  refine lv_aload_n hx hb dX11_word_8 rfl (lv_at hl 3 rfl) ?_
  have hrv := vk_recv hE0.2.2.2.2.2.2.2.2.2.1 (i := 2) (by decide) h.2.2.1
  refine k_i (r_VK C h hl (As := []) (rest := [.int 0]) (c_length l D G b0 f3 2 (by decide)) hrv mk_J0_length_8abf5 w_1574 w_1252 w_1253 w_1254 ⟨(Nat.le_of_ble_eq_true rfl), (Nat.le_of_ble_eq_true rfl)⟩ rfl (Nat.le_of_ble_eq_true rfl) ⟨(Nat.le_of_ble_eq_true rfl), (Nat.le_of_ble_eq_true rfl)⟩ rfl dX11_word_9) h (fun r8 f9 H locs p10 h => ?_)
  obtain ⟨er8, rfl⟩ := p10
  obtain rfl : (1 : Int32) = r8 := by rw [er8]; decide
  refine lv_icmp_ge (tgt := 55) hx hb dX11_word_12 (by decide) (fun c11 => ?_) (fun c11 => ?_)
  · exact absurd c11 (by decide)
  · refine lv_aload_n hx hb dX11_word_15 rfl (lv_at hl 2 rfl) ?_
    refine t_getfd C h tf3 hu0 (by decide) wf_60 (v := .int aa1_f3) kpu0_3f3 fl_X11_90 dX11_word_16 ?_
    refine lv_iload_n hx hb dX11_word_19 rfl (lv_at hl 0 rfl) ?_
    refine i_addk hx hb dX11_word_20 ipu0_3f3 (k := 0) rfl (lo := 0) (hi := 200) (by decide) (fun z14 ez14 mz14 iz14 => ?_)
    refine lv_aload_n hx hb dX11_word_21 rfl (lv_at hl 2 rfl) ?_
    refine t_getfd C h tf3 hu0 (by decide) wf_60 (v := .int ln) k5 fl_X11_79 dX11_word_22 ?_
    refine lv_icmp_ge (tgt := 47) hx hb dX11_word_25 (by decide) (fun c15 => ?_) (fun c15 => ?_)
    · have c16 : ln.toInt ≤ z14.toInt := Int32.le_iff_toInt_le.mp c15
      refine lv_iconst (v := 0) hx hb dX11_word_47 (by decide) ?_
      exact u_zret C h hr hQ ⟨by decide, by decide⟩ (⟨⟨by decide, by decide⟩, tf3, of3, (fun h_ => absurd h_ (by decide)), (fun _ => (fun z_ => by obtain ⟨h1_, g0_, h9_⟩ := z_; omega)), ⟨aa1_f3, kpu0_3f3, ipu0_3f3, (by have n1_ : (1 : Int32).toInt = 1 := rfl; have n0_ : (0 : Int32).toInt = 0 := rfl; omega)⟩⟩) (Nat.le_of_ble_eq_true rfl) (Nat.le_of_ble_eq_true rfl) dX11_word_48
    · have c17 : z14.toInt < ln.toInt := Int32.lt_iff_toInt_lt.mp (iv_nle c15)
      have i18 : iv z14 0 199 := iv_Ll c17 iz14 hln (by decide)
      have i19 : iv ln 1 200 := iv_Lr c17 iz14 hln (by decide)
      refine lv_aload_n hx hb dX11_word_28 rfl (lv_at hl 2 rfl) ?_
      refine t_getfd C h tf3 hu0 (by decide) wf_60 (v := .ref tq) k6 fl_X11_9 dX11_word_29 ?_
      refine lv_aload_n hx hb dX11_word_32 rfl (lv_at hl 2 rfl) ?_
      refine t_getfd C h tf3 hu0 (by decide) wf_60 (v := .int aa1_f3) kpu0_3f3 fl_X11_90 dX11_word_33 ?_
      refine lv_iload_n hx hb dX11_word_36 rfl (lv_at hl 0 rfl) ?_
      refine i_addk hx hb dX11_word_37 ipu0_3f3 (k := 0) rfl (lo := 0) (hi := 200) (by decide) (fun z20 ez20 mz20 iz20 => ?_)
      refine e_bald C h tf3 htq (by decide) wf_61 k7 (ix_o (by omega)) dX11_word_38 (fun z21 ez21 iz21 => ?_)
      have mz21 := congrArg Int32.toInt ez21
      have hz21 := hB (rn 32 32 B ln.toInt.toNat aa.toInt.toNat) (by omega)
      have sz21 := sg_c hz21.2
      have qz21 : z21.toInt = sg (B (rn 32 32 B ln.toInt.toNat aa.toInt.toNat)) := by rw [mz21, ← hz21.1]; exact congrArg (fun z_ => (rt z_).toInt) (by omega)
      refine lv_aload_n hx hb dX11_word_39 rfl (lv_at hl 3 rfl) ?_
      refine lv_iload_n hx hb dX11_word_40 rfl (lv_at hl 0 rfl) ?_
      have hrv := vk_recv hE0.2.2.2.2.2.2.2.2.2.1 (i := 2) (by decide) h.2.2.1
      refine k_i (r_VK C h hl (As := [.int 0]) (rest := [.int z21]) (c_charAt l D G b0 f3 2 (by decide) 0 (by decide) (by unfold vp_in; decide)) hrv mk_J0_charAt_5068e w_1575 w_473 w_474 w_475 ⟨(Nat.le_of_ble_eq_true rfl), (Nat.le_of_ble_eq_true rfl)⟩ rfl (Nat.le_of_ble_eq_true rfl) ⟨(Nat.le_of_ble_eq_true rfl), (Nat.le_of_ble_eq_true rfl)⟩ rfl dX11_word_41) h (fun r22 f23 H locs p24 h => ?_)
      obtain ⟨er22, rfl⟩ := p24
      obtain rfl : (101 : Int32) = r22 := by rw [er22]; decide
      refine lv_icmp_eq (tgt := 49) hx hb dX11_word_44 (by decide) (fun c25 => ?_) (fun c25 => ?_)
      · have c26 : z21.toInt = 101 := congrArg Int32.toInt c25
        have i27 : iv z21 101 101 := iv_Q c26 iz21 (iv_k (x := 101) (k := 101) rfl) (by decide)
        refine lv_iinc (v := 1) (lv' := [(3, .int 1), (2, .int r2), (0, .ref u0), (1, .ref (G (20 + 2)))]) hx hb dX11_word_49 hl (k := 0) rfl (by decide) (by decide) rfl (fun ls hl => ?_)
        refine lv_goto (tgt := 7) hx hb dX11_word_52 (by decide) ?_
        refine lv_iload_n hx hb dX11_word_7 rfl (lv_at hl 0 rfl) ?_
        refine lv_aload_n hx hb dX11_word_8 rfl (lv_at hl 3 rfl) ?_
        have hrv := vk_recv hE0.2.2.2.2.2.2.2.2.2.1 (i := 2) (by decide) h.2.2.1
        refine k_i (r_VK C h hl (As := []) (rest := [.int 1]) (c_length l D G b0 f3 2 (by decide)) hrv mk_J0_length_8abf5 w_1574 w_1252 w_1253 w_1254 ⟨(Nat.le_of_ble_eq_true rfl), (Nat.le_of_ble_eq_true rfl)⟩ rfl (Nat.le_of_ble_eq_true rfl) ⟨(Nat.le_of_ble_eq_true rfl), (Nat.le_of_ble_eq_true rfl)⟩ rfl dX11_word_9) h (fun r29 f30 H locs p31 h => ?_)
        obtain ⟨er29, rfl⟩ := p31
        obtain rfl : (1 : Int32) = r29 := by rw [er29]; decide
        refine lv_icmp_ge (tgt := 55) hx hb dX11_word_12 (by decide) (fun c32 => ?_) (fun c32 => ?_)
        · refine lv_aload_n hx hb dX11_word_55 rfl (lv_at hl 2 rfl) ?_
          refine t_getfd C h tf3 hu0 (by decide) wf_60 (v := .int aa1_f3) kpu0_3f3 fl_X11_90 dX11_word_56 ?_
          refine lv_aload_n hx hb dX11_word_59 rfl (lv_at hl 3 rfl) ?_
          have hrv := vk_recv hE0.2.2.2.2.2.2.2.2.2.1 (i := 2) (by decide) h.2.2.1
          refine k_i (r_VK C h hl (As := []) (rest := [.int aa1_f3]) (c_length l D G b0 f3 2 (by decide)) hrv mk_J0_length_8abf5 w_1574 w_1252 w_1253 w_1254 ⟨(Nat.le_of_ble_eq_true rfl), (Nat.le_of_ble_eq_true rfl)⟩ rfl (Nat.le_of_ble_eq_true rfl) ⟨(Nat.le_of_ble_eq_true rfl), (Nat.le_of_ble_eq_true rfl)⟩ rfl dX11_word_60) h (fun r35 f36 H locs p37 h => ?_)
          obtain ⟨er35, rfl⟩ := p37
          obtain rfl : (1 : Int32) = r35 := by rw [er35]; decide
          refine i_addk hx hb dX11_word_63 ipu0_3f3 (k := 1) rfl (lo := 1) (hi := 201) (by decide) (fun z38 ez38 mz38 iz38 => ?_)
          refine lv_istore_n (lv' := [(3, .int z38), (2, .int r2), (0, .ref u0), (1, .ref (G (20 + 2)))]) hx hb dX11_word_64 rfl hl (by decide) rfl (fun ls hl => ?_)
          refine lv_iload_n hx hb dX11_word_65 rfl (lv_at hl 0 rfl) ?_
          refine lv_aload_n hx hb dX11_word_66 rfl (lv_at hl 2 rfl) ?_
          refine t_getfd C h tf3 hu0 (by decide) wf_60 (v := .int ln) k5 fl_X11_79 dX11_word_67 ?_
          refine lv_icmp_ge (tgt := 97) hx hb dX11_word_70 (by decide) (fun c39 => ?_) (fun c39 => ?_)
          · have c40 : ln.toInt ≤ z38.toInt := Int32.le_iff_toInt_le.mp c39
            refine lv_aload_n hx hb dX11_word_97 rfl (lv_at hl 2 rfl) ?_
            refine lv_iload_n hx hb dX11_word_98 rfl (lv_at hl 0 rfl) ?_
            refine t_put C h tf3 of3 hu0 (by decide) (by decide) (by decide) wf_60 fw_60 (k := 3) rfl flw_X11_90 (Or.inr ⟨_, _, _, rfl, rfl⟩) (v := .int z38) rfl rfl ⟨_, rfl, (show iv z38 0 200 from by omega)⟩ dX11_word_99 (fun f44 H locs h tf44 of44 hq ha_ hn_ hk_ => ?_)
            have k45 := hk_ 2 _ (by decide) k5
            have k46 := hk_ 1 _ (by decide) k6
            have k47 := atp.tg k7 hq htq (by decide)
            have k49 := ha_
            refine lv_iconst (v := 1) hx hb dX11_word_102 (by decide) ?_
            exact u_zret C h hr hQ ⟨by decide, by decide⟩ (⟨⟨by decide, by decide⟩, tf44, of44, (fun _ => ⟨by omega, by omega, by omega⟩), (fun h_ => absurd h_ (by decide)), ⟨z38, k49, (show iv z38 0 200 from by omega), (by have n1_ : (1 : Int32).toInt = 1 := rfl; have n0_ : (0 : Int32).toInt = 0 := rfl; omega)⟩⟩) (Nat.le_of_ble_eq_true rfl) (Nat.le_of_ble_eq_true rfl) dX11_word_103
          · have c41 : z38.toInt < ln.toInt := Int32.lt_iff_toInt_lt.mp (iv_nle c39)
            have i42 : iv z38 1 199 := iv_Ll c41 iz38 i19 (by decide)
            have i43 : iv ln 2 200 := iv_Lr c41 iz38 i19 (by decide)
            refine lv_aload_n hx hb dX11_word_73 rfl (lv_at hl 2 rfl) ?_
            refine t_getfd C h tf3 hu0 (by decide) wf_60 (v := .ref tq) k6 fl_X11_9 dX11_word_74 ?_
            refine lv_iload_n hx hb dX11_word_77 rfl (lv_at hl 0 rfl) ?_
            refine e_bald C h tf3 htq (by decide) wf_61 k7 (iv_in i42 (by decide)) dX11_word_78 (fun z50 ez50 iz50 => ?_)
            have mz50 := congrArg Int32.toInt ez50
            have hz50 := hB ((rn 32 32 B ln.toInt.toNat aa.toInt.toNat) + 1) (by omega)
            have sz50 := sg_c hz50.2
            have qz50 : z50.toInt = sg (B ((rn 32 32 B ln.toInt.toNat aa.toInt.toNat) + 1)) := by rw [mz50, ← hz50.1]; exact congrArg (fun z_ => (rt z_).toInt) (by omega)
            refine lv_bipush (v := 97) hx hb dX11_word_79 (by decide) ?_
            refine lv_icmp_lt (tgt := 97) hx hb dX11_word_81 (by decide) (fun c51 => ?_) (fun c51 => ?_)
            · have c52 : z50.toInt < 97 := Int32.lt_iff_toInt_lt.mp c51
              have i53 : iv z50 (-128) 96 := iv_Ll c52 iz50 (iv_k (x := 97) (k := 97) rfl) (by decide)
              refine lv_aload_n hx hb dX11_word_97 rfl (lv_at hl 2 rfl) ?_
              refine lv_iload_n hx hb dX11_word_98 rfl (lv_at hl 0 rfl) ?_
              refine t_put C h tf3 of3 hu0 (by decide) (by decide) (by decide) wf_60 fw_60 (k := 3) rfl flw_X11_90 (Or.inr ⟨_, _, _, rfl, rfl⟩) (v := .int z38) rfl rfl ⟨_, rfl, (iv_w i42 (by decide))⟩ dX11_word_99 (fun f56 H locs h tf56 of56 hq ha_ hn_ hk_ => ?_)
              have k57 := hk_ 2 _ (by decide) k5
              have k58 := hk_ 1 _ (by decide) k6
              have k59 := atp.tg k7 hq htq (by decide)
              have k61 := ha_
              refine lv_iconst (v := 1) hx hb dX11_word_102 (by decide) ?_
              exact u_zret C h hr hQ ⟨by decide, by decide⟩ (⟨⟨by decide, by decide⟩, tf56, of56, (fun _ => ⟨by omega, by omega, by omega⟩), (fun h_ => absurd h_ (by decide)), ⟨z38, k61, (iv_w i42 (by decide)), (by have n1_ : (1 : Int32).toInt = 1 := rfl; have n0_ : (0 : Int32).toInt = 0 := rfl; omega)⟩⟩) (Nat.le_of_ble_eq_true rfl) (Nat.le_of_ble_eq_true rfl) dX11_word_103
            · have c54 : 97 ≤ z50.toInt := Int32.le_iff_toInt_le.mp (iv_nlt c51)
              have i55 : iv z50 97 127 := iv_Er c54 (iv_k (x := 97) (k := 97) rfl) iz50 (by decide)
              refine lv_aload_n hx hb dX11_word_84 rfl (lv_at hl 2 rfl) ?_
              refine t_getfd C h tf3 hu0 (by decide) wf_60 (v := .ref tq) k6 fl_X11_9 dX11_word_85 ?_
              refine lv_iload_n hx hb dX11_word_88 rfl (lv_at hl 0 rfl) ?_
              refine e_bald C h tf3 htq (by decide) wf_61 k7 (iv_in i42 (by decide)) dX11_word_89 (fun z62 ez62 iz62 => ?_)
              have mz62 := congrArg Int32.toInt ez62
              have hz62 := hB ((rn 32 32 B ln.toInt.toNat aa.toInt.toNat) + 1) (by omega)
              have sz62 := sg_c hz62.2
              have qz62 : z62.toInt = sg (B ((rn 32 32 B ln.toInt.toNat aa.toInt.toNat) + 1)) := by rw [mz62, ← hz62.1]; exact congrArg (fun z_ => (rt z_).toInt) (by omega)
              refine lv_bipush (v := 122) hx hb dX11_word_90 (by decide) ?_
              refine lv_icmp_gt (tgt := 97) hx hb dX11_word_92 (by decide) (fun c63 => ?_) (fun c63 => ?_)
              · have c64 : 122 < z62.toInt := Int32.lt_iff_toInt_lt.mp c63
                have i65 : iv z62 123 127 := iv_Lr c64 (iv_k (x := 122) (k := 122) rfl) iz62 (by decide)
                refine lv_aload_n hx hb dX11_word_97 rfl (lv_at hl 2 rfl) ?_
                refine lv_iload_n hx hb dX11_word_98 rfl (lv_at hl 0 rfl) ?_
                refine t_put C h tf3 of3 hu0 (by decide) (by decide) (by decide) wf_60 fw_60 (k := 3) rfl flw_X11_90 (Or.inr ⟨_, _, _, rfl, rfl⟩) (v := .int z38) rfl rfl ⟨_, rfl, (iv_w i42 (by decide))⟩ dX11_word_99 (fun f68 H locs h tf68 of68 hq ha_ hn_ hk_ => ?_)
                have k69 := hk_ 2 _ (by decide) k5
                have k70 := hk_ 1 _ (by decide) k6
                have k71 := atp.tg k7 hq htq (by decide)
                have k73 := ha_
                refine lv_iconst (v := 1) hx hb dX11_word_102 (by decide) ?_
                exact u_zret C h hr hQ ⟨by decide, by decide⟩ (⟨⟨by decide, by decide⟩, tf68, of68, (fun _ => ⟨by omega, by omega, by omega⟩), (fun h_ => absurd h_ (by decide)), ⟨z38, k73, (iv_w i42 (by decide)), (by have n1_ : (1 : Int32).toInt = 1 := rfl; have n0_ : (0 : Int32).toInt = 0 := rfl; omega)⟩⟩) (Nat.le_of_ble_eq_true rfl) (Nat.le_of_ble_eq_true rfl) dX11_word_103
              · have c66 : z62.toInt ≤ 122 := Int32.le_iff_toInt_le.mp (iv_nlt c63)
                have i67 : iv z62 (-128) 122 := iv_El c66 iz62 (iv_k (x := 122) (k := 122) rfl) (by decide)
                refine lv_iconst (v := 0) hx hb dX11_word_95 (by decide) ?_
                exact u_zret C h hr hQ ⟨by decide, by decide⟩ (⟨⟨by decide, by decide⟩, tf3, of3, (fun h_ => absurd h_ (by decide)), (fun _ => (fun z_ => by obtain ⟨h1_, g0_, h9_⟩ := z_; omega)), ⟨aa1_f3, kpu0_3f3, ipu0_3f3, (by have n1_ : (1 : Int32).toInt = 1 := rfl; have n0_ : (0 : Int32).toInt = 0 := rfl; omega)⟩⟩) (Nat.le_of_ble_eq_true rfl) (Nat.le_of_ble_eq_true rfl) dX11_word_96
        · exact absurd c32 (by decide)
      · have c28 : z21.toInt ≠ 101 := fun z_ => c25 (Int32.toInt_inj.mp z_)
        refine lv_iconst (v := 0) hx hb dX11_word_47 (by decide) ?_
        exact u_zret C h hr hQ ⟨by decide, by decide⟩ (⟨⟨by decide, by decide⟩, tf3, of3, (fun h_ => absurd h_ (by decide)), (fun _ => (fun z_ => by obtain ⟨h1_, g0_, h9_⟩ := z_; omega)), ⟨aa1_f3, kpu0_3f3, ipu0_3f3, (by have n1_ : (1 : Int32).toInt = 1 := rfl; have n0_ : (0 : Int32).toInt = 0 := rfl; omega)⟩⟩) (Nat.le_of_ble_eq_true rfl) (Nat.le_of_ble_eq_true rfl) dX11_word_48
abbrev rm_s_X11_wordX3 : Room := { frames := 4, cells := 0, slots := 0, locals := 85 }
set_option maxRecDepth 100000 in
set_option maxHeartbeats 4000000 in
theorem s_X11_wordX3 (l : Launch) (D : va_G) (G : Nat → Nat) (b0 : Nat) (τ : Nat → Nat) (f : hM) (t : TI G 9 τ f) (u0 : Nat) (hu0 : τ u0 = 60) (ln : Int32) (hln : iv ln 0 200) (k_u0_2 : atp f u0 (fd 2 (.int ln))) (aa : Int32) (haa : iv aa 0 200) (k_u0_3 : atp f u0 (fd 3 (.int aa))) (tq : Nat) (htq : τ tq = 61) (k_u0_1 : atp f u0 (fd 1 (.ref tq))) (rt : Nat → Int32) (hRtq : atp f tq (eqc (.inl (G 0, 200, .inl rt)))) (B : Nat → Int) (hB : ∀ k : Nat, (k : Int) < ln.toInt → (rt k).toInt = sg (B k) ∧ 0 ≤ B k ∧ B k ≤ 255)  : mI l yX11_word cX11_word 4 (.boolean) rm_s_X11_wordX3 D G b0 f [.ref u0, .ref (G (20 + 3))] (fun r f1 => iv r 0 1 ∧ TI G 9 τ f1 ∧ Fr [60, 60004] τ f f1 ∧ (r.toInt ≠ 0 → (mw2 B ln.toInt.toNat (rn 32 32 B ln.toInt.toNat aa.toInt.toNat) 115 101)) ∧ (r.toInt = 0 → (¬ mw2 B ln.toInt.toNat (rn 32 32 B ln.toInt.toNat aa.toInt.toNat) 115 101)) ∧ (∃ aa1 : Int32, atp f1 u0 (fd 3 (.int aa1)) ∧ iv aa1 0 200 ∧ (r.toInt ≠ 0 → aa1.toInt = (((rn 32 32 B ln.toInt.toNat aa.toInt.toNat) : Nat) : Int) + 2) ∧ (r.toInt = 0 → aa1.toInt = (((rn 32 32 B ln.toInt.toNat aa.toInt.toNat) : Nat) : Int)))) := by
  refine met2 (own := RX11) (by decide) rfl (Nat.le_of_ble_eq_true rfl) ?_
  intro p e s m args below meth c ls Q hQ C hr hini hl h
  have hl : lv_has ls 4 [(0, .ref u0), (1, .ref (G (20 + 3)))] := hl
  obtain ⟨hx, hb, hml, hown, hts, hE0, hlk⟩ := id C
  have o := Fr.rf [60, 60004] τ f
  refine lv_aload_n hx hb dX11_word_0 rfl (lv_at hl 0 rfl) ?_
  obtain ⟨_, r1⟩ := t_rec t hu0 (by decide) wf_60
  refine k_i (r_V C h hl (As := []) (rest := []) (s_X11_lookX l D G b0 τ f t u0 hu0 ln hln k_u0_2 aa haa k_u0_3 tq htq k_u0_1 rt hRtq B hB) r1 (Cn := RX11) (T := TX11) (N := 32) rfl rfl mk_X11_look w_1557 w_1559 w_40 w_1560 ⟨Nat.le_of_ble_eq_true rfl, Nat.le_of_ble_eq_true rfl⟩ rfl (Nat.le_of_ble_eq_true rfl) ⟨Nat.le_of_ble_eq_true rfl, Nat.le_of_ble_eq_true rfl⟩ rfl dX11_word_1) h (fun r2 f3 H locs p4 h => ?_)
  obtain ⟨ir2, tf3, ogf3, x0r2, ⟨aa1_f3, kpu0_3f3, ipu0_3f3, rpu0_3f3⟩⟩ := p4
  have of3 : Fr [60, 60004] τ f f3 := Fr.tr o ogf3 (by decide) (by decide)
  have k5 := atp.fk k_u0_2 ogf3 hu0 (by decide) (by decide)
  have k6 := atp.fk k_u0_1 ogf3 hu0 (by decide) (by decide)
  have k7 := atp.fr hRtq ogf3 htq (by decide)
  refine lv_istore_n (lv' := [(2, .int r2), (0, .ref u0), (1, .ref (G (20 + 3)))]) hx hb dX11_word_4 rfl hl (by decide) rfl (fun ls hl => ?_)
  refine lv_iconst (v := 0) hx hb dX11_word_5 (by decide) ?_
  refine lv_istore_n (lv' := [(3, .int 0), (2, .int r2), (0, .ref u0), (1, .ref (G (20 + 3)))]) hx hb dX11_word_6 rfl hl (by decide) rfl (fun ls hl => ?_)
  refine lv_iload_n hx hb dX11_word_7 rfl (lv_at hl 0 rfl) ?_
  refine lv_aload_n hx hb dX11_word_8 rfl (lv_at hl 3 rfl) ?_
  have hrv := vk_recv hE0.2.2.2.2.2.2.2.2.2.1 (i := 3) (by decide) h.2.2.1
  refine k_i (r_VK C h hl (As := []) (rest := [.int 0]) (c_length l D G b0 f3 3 (by decide)) hrv mk_J0_length_8abf5 w_1574 w_1252 w_1253 w_1254 ⟨(Nat.le_of_ble_eq_true rfl), (Nat.le_of_ble_eq_true rfl)⟩ rfl (Nat.le_of_ble_eq_true rfl) ⟨(Nat.le_of_ble_eq_true rfl), (Nat.le_of_ble_eq_true rfl)⟩ rfl dX11_word_9) h (fun r8 f9 H locs p10 h => ?_)
  obtain ⟨er8, rfl⟩ := p10
  obtain rfl : (2 : Int32) = r8 := by rw [er8]; decide
  refine lv_icmp_ge (tgt := 55) hx hb dX11_word_12 (by decide) (fun c11 => ?_) (fun c11 => ?_)
  · exact absurd c11 (by decide)
  · refine lv_aload_n hx hb dX11_word_15 rfl (lv_at hl 2 rfl) ?_
    refine t_getfd C h tf3 hu0 (by decide) wf_60 (v := .int aa1_f3) kpu0_3f3 fl_X11_90 dX11_word_16 ?_
    refine lv_iload_n hx hb dX11_word_19 rfl (lv_at hl 0 rfl) ?_
    refine i_addk hx hb dX11_word_20 ipu0_3f3 (k := 0) rfl (lo := 0) (hi := 200) (by decide) (fun z14 ez14 mz14 iz14 => ?_)
    refine lv_aload_n hx hb dX11_word_21 rfl (lv_at hl 2 rfl) ?_
    refine t_getfd C h tf3 hu0 (by decide) wf_60 (v := .int ln) k5 fl_X11_79 dX11_word_22 ?_
    refine lv_icmp_ge (tgt := 47) hx hb dX11_word_25 (by decide) (fun c15 => ?_) (fun c15 => ?_)
    · have c16 : ln.toInt ≤ z14.toInt := Int32.le_iff_toInt_le.mp c15
      refine lv_iconst (v := 0) hx hb dX11_word_47 (by decide) ?_
      exact u_zret C h hr hQ ⟨by decide, by decide⟩ (⟨⟨by decide, by decide⟩, tf3, of3, (fun h_ => absurd h_ (by decide)), (fun _ => (fun z_ => by obtain ⟨h1_, g0_, g1_, h9_⟩ := z_; omega)), ⟨aa1_f3, kpu0_3f3, ipu0_3f3, (by have n1_ : (1 : Int32).toInt = 1 := rfl; have n0_ : (0 : Int32).toInt = 0 := rfl; omega)⟩⟩) (Nat.le_of_ble_eq_true rfl) (Nat.le_of_ble_eq_true rfl) dX11_word_48
    · have c17 : z14.toInt < ln.toInt := Int32.lt_iff_toInt_lt.mp (iv_nle c15)
      have i18 : iv z14 0 199 := iv_Ll c17 iz14 hln (by decide)
      have i19 : iv ln 1 200 := iv_Lr c17 iz14 hln (by decide)
      refine lv_aload_n hx hb dX11_word_28 rfl (lv_at hl 2 rfl) ?_
      refine t_getfd C h tf3 hu0 (by decide) wf_60 (v := .ref tq) k6 fl_X11_9 dX11_word_29 ?_
      refine lv_aload_n hx hb dX11_word_32 rfl (lv_at hl 2 rfl) ?_
      refine t_getfd C h tf3 hu0 (by decide) wf_60 (v := .int aa1_f3) kpu0_3f3 fl_X11_90 dX11_word_33 ?_
      refine lv_iload_n hx hb dX11_word_36 rfl (lv_at hl 0 rfl) ?_
      refine i_addk hx hb dX11_word_37 ipu0_3f3 (k := 0) rfl (lo := 0) (hi := 200) (by decide) (fun z20 ez20 mz20 iz20 => ?_)
      refine e_bald C h tf3 htq (by decide) wf_61 k7 (ix_o (by omega)) dX11_word_38 (fun z21 ez21 iz21 => ?_)
      have mz21 := congrArg Int32.toInt ez21
      have hz21 := hB (rn 32 32 B ln.toInt.toNat aa.toInt.toNat) (by omega)
      have sz21 := sg_c hz21.2
      have qz21 : z21.toInt = sg (B (rn 32 32 B ln.toInt.toNat aa.toInt.toNat)) := by rw [mz21, ← hz21.1]; exact congrArg (fun z_ => (rt z_).toInt) (by omega)
      refine lv_aload_n hx hb dX11_word_39 rfl (lv_at hl 3 rfl) ?_
      refine lv_iload_n hx hb dX11_word_40 rfl (lv_at hl 0 rfl) ?_
      have hrv := vk_recv hE0.2.2.2.2.2.2.2.2.2.1 (i := 3) (by decide) h.2.2.1
      refine k_i (r_VK C h hl (As := [.int 0]) (rest := [.int z21]) (c_charAt l D G b0 f3 3 (by decide) 0 (by decide) (by unfold vp_in; decide)) hrv mk_J0_charAt_5068e w_1575 w_473 w_474 w_475 ⟨(Nat.le_of_ble_eq_true rfl), (Nat.le_of_ble_eq_true rfl)⟩ rfl (Nat.le_of_ble_eq_true rfl) ⟨(Nat.le_of_ble_eq_true rfl), (Nat.le_of_ble_eq_true rfl)⟩ rfl dX11_word_41) h (fun r22 f23 H locs p24 h => ?_)
      obtain ⟨er22, rfl⟩ := p24
      obtain rfl : (115 : Int32) = r22 := by rw [er22]; decide
      refine lv_icmp_eq (tgt := 49) hx hb dX11_word_44 (by decide) (fun c25 => ?_) (fun c25 => ?_)
      · have c26 : z21.toInt = 115 := congrArg Int32.toInt c25
        have i27 : iv z21 115 115 := iv_Q c26 iz21 (iv_k (x := 115) (k := 115) rfl) (by decide)
        refine lv_iinc (v := 1) (lv' := [(3, .int 1), (2, .int r2), (0, .ref u0), (1, .ref (G (20 + 3)))]) hx hb dX11_word_49 hl (k := 0) rfl (by decide) (by decide) rfl (fun ls hl => ?_)
        refine lv_goto (tgt := 7) hx hb dX11_word_52 (by decide) ?_
        refine lv_iload_n hx hb dX11_word_7 rfl (lv_at hl 0 rfl) ?_
        refine lv_aload_n hx hb dX11_word_8 rfl (lv_at hl 3 rfl) ?_
        have hrv := vk_recv hE0.2.2.2.2.2.2.2.2.2.1 (i := 3) (by decide) h.2.2.1
        refine k_i (r_VK C h hl (As := []) (rest := [.int 1]) (c_length l D G b0 f3 3 (by decide)) hrv mk_J0_length_8abf5 w_1574 w_1252 w_1253 w_1254 ⟨(Nat.le_of_ble_eq_true rfl), (Nat.le_of_ble_eq_true rfl)⟩ rfl (Nat.le_of_ble_eq_true rfl) ⟨(Nat.le_of_ble_eq_true rfl), (Nat.le_of_ble_eq_true rfl)⟩ rfl dX11_word_9) h (fun r29 f30 H locs p31 h => ?_)
        obtain ⟨er29, rfl⟩ := p31
        obtain rfl : (2 : Int32) = r29 := by rw [er29]; decide
        refine lv_icmp_ge (tgt := 55) hx hb dX11_word_12 (by decide) (fun c32 => ?_) (fun c32 => ?_)
        · exact absurd c32 (by decide)
        · refine lv_aload_n hx hb dX11_word_15 rfl (lv_at hl 2 rfl) ?_
          refine t_getfd C h tf3 hu0 (by decide) wf_60 (v := .int aa1_f3) kpu0_3f3 fl_X11_90 dX11_word_16 ?_
          refine lv_iload_n hx hb dX11_word_19 rfl (lv_at hl 0 rfl) ?_
          refine i_addk hx hb dX11_word_20 ipu0_3f3 (k := 1) rfl (lo := 1) (hi := 201) (by decide) (fun z35 ez35 mz35 iz35 => ?_)
          refine lv_aload_n hx hb dX11_word_21 rfl (lv_at hl 2 rfl) ?_
          refine t_getfd C h tf3 hu0 (by decide) wf_60 (v := .int ln) k5 fl_X11_79 dX11_word_22 ?_
          refine lv_icmp_ge (tgt := 47) hx hb dX11_word_25 (by decide) (fun c36 => ?_) (fun c36 => ?_)
          · have c37 : ln.toInt ≤ z35.toInt := Int32.le_iff_toInt_le.mp c36
            refine lv_iconst (v := 0) hx hb dX11_word_47 (by decide) ?_
            exact u_zret C h hr hQ ⟨by decide, by decide⟩ (⟨⟨by decide, by decide⟩, tf3, of3, (fun h_ => absurd h_ (by decide)), (fun _ => (fun z_ => by obtain ⟨h1_, g0_, g1_, h9_⟩ := z_; omega)), ⟨aa1_f3, kpu0_3f3, ipu0_3f3, (by have n1_ : (1 : Int32).toInt = 1 := rfl; have n0_ : (0 : Int32).toInt = 0 := rfl; omega)⟩⟩) (Nat.le_of_ble_eq_true rfl) (Nat.le_of_ble_eq_true rfl) dX11_word_48
          · have c38 : z35.toInt < ln.toInt := Int32.lt_iff_toInt_lt.mp (iv_nle c36)
            have i39 : iv z35 1 199 := iv_Ll c38 iz35 i19 (by decide)
            have i40 : iv ln 2 200 := iv_Lr c38 iz35 i19 (by decide)
            refine lv_aload_n hx hb dX11_word_28 rfl (lv_at hl 2 rfl) ?_
            refine t_getfd C h tf3 hu0 (by decide) wf_60 (v := .ref tq) k6 fl_X11_9 dX11_word_29 ?_
            refine lv_aload_n hx hb dX11_word_32 rfl (lv_at hl 2 rfl) ?_
            refine t_getfd C h tf3 hu0 (by decide) wf_60 (v := .int aa1_f3) kpu0_3f3 fl_X11_90 dX11_word_33 ?_
            refine lv_iload_n hx hb dX11_word_36 rfl (lv_at hl 0 rfl) ?_
            refine i_addk hx hb dX11_word_37 ipu0_3f3 (k := 1) rfl (lo := 1) (hi := 201) (by decide) (fun z41 ez41 mz41 iz41 => ?_)
            refine e_bald C h tf3 htq (by decide) wf_61 k7 (ix_o (by omega)) dX11_word_38 (fun z42 ez42 iz42 => ?_)
            have mz42 := congrArg Int32.toInt ez42
            have hz42 := hB ((rn 32 32 B ln.toInt.toNat aa.toInt.toNat) + 1) (by omega)
            have sz42 := sg_c hz42.2
            have qz42 : z42.toInt = sg (B ((rn 32 32 B ln.toInt.toNat aa.toInt.toNat) + 1)) := by rw [mz42, ← hz42.1]; exact congrArg (fun z_ => (rt z_).toInt) (by omega)
            refine lv_aload_n hx hb dX11_word_39 rfl (lv_at hl 3 rfl) ?_
            refine lv_iload_n hx hb dX11_word_40 rfl (lv_at hl 0 rfl) ?_
            have hrv := vk_recv hE0.2.2.2.2.2.2.2.2.2.1 (i := 3) (by decide) h.2.2.1
            refine k_i (r_VK C h hl (As := [.int 1]) (rest := [.int z42]) (c_charAt l D G b0 f3 3 (by decide) 1 (by decide) (by unfold vp_in; decide)) hrv mk_J0_charAt_5068e w_1575 w_473 w_474 w_475 ⟨(Nat.le_of_ble_eq_true rfl), (Nat.le_of_ble_eq_true rfl)⟩ rfl (Nat.le_of_ble_eq_true rfl) ⟨(Nat.le_of_ble_eq_true rfl), (Nat.le_of_ble_eq_true rfl)⟩ rfl dX11_word_41) h (fun r43 f44 H locs p45 h => ?_)
            obtain ⟨er43, rfl⟩ := p45
            obtain rfl : (101 : Int32) = r43 := by rw [er43]; decide
            refine lv_icmp_eq (tgt := 49) hx hb dX11_word_44 (by decide) (fun c46 => ?_) (fun c46 => ?_)
            · have c47 : z42.toInt = 101 := congrArg Int32.toInt c46
              have i48 : iv z42 101 101 := iv_Q c47 iz42 (iv_k (x := 101) (k := 101) rfl) (by decide)
              refine lv_iinc (v := 2) (lv' := [(3, .int 2), (2, .int r2), (0, .ref u0), (1, .ref (G (20 + 3)))]) hx hb dX11_word_49 hl (k := 0) rfl (by decide) (by decide) rfl (fun ls hl => ?_)
              refine lv_goto (tgt := 7) hx hb dX11_word_52 (by decide) ?_
              refine lv_iload_n hx hb dX11_word_7 rfl (lv_at hl 0 rfl) ?_
              refine lv_aload_n hx hb dX11_word_8 rfl (lv_at hl 3 rfl) ?_
              have hrv := vk_recv hE0.2.2.2.2.2.2.2.2.2.1 (i := 3) (by decide) h.2.2.1
              refine k_i (r_VK C h hl (As := []) (rest := [.int 2]) (c_length l D G b0 f3 3 (by decide)) hrv mk_J0_length_8abf5 w_1574 w_1252 w_1253 w_1254 ⟨(Nat.le_of_ble_eq_true rfl), (Nat.le_of_ble_eq_true rfl)⟩ rfl (Nat.le_of_ble_eq_true rfl) ⟨(Nat.le_of_ble_eq_true rfl), (Nat.le_of_ble_eq_true rfl)⟩ rfl dX11_word_9) h (fun r50 f51 H locs p52 h => ?_)
              obtain ⟨er50, rfl⟩ := p52
              obtain rfl : (2 : Int32) = r50 := by rw [er50]; decide
              refine lv_icmp_ge (tgt := 55) hx hb dX11_word_12 (by decide) (fun c53 => ?_) (fun c53 => ?_)
              · refine lv_aload_n hx hb dX11_word_55 rfl (lv_at hl 2 rfl) ?_
                refine t_getfd C h tf3 hu0 (by decide) wf_60 (v := .int aa1_f3) kpu0_3f3 fl_X11_90 dX11_word_56 ?_
                refine lv_aload_n hx hb dX11_word_59 rfl (lv_at hl 3 rfl) ?_
                have hrv := vk_recv hE0.2.2.2.2.2.2.2.2.2.1 (i := 3) (by decide) h.2.2.1
                refine k_i (r_VK C h hl (As := []) (rest := [.int aa1_f3]) (c_length l D G b0 f3 3 (by decide)) hrv mk_J0_length_8abf5 w_1574 w_1252 w_1253 w_1254 ⟨(Nat.le_of_ble_eq_true rfl), (Nat.le_of_ble_eq_true rfl)⟩ rfl (Nat.le_of_ble_eq_true rfl) ⟨(Nat.le_of_ble_eq_true rfl), (Nat.le_of_ble_eq_true rfl)⟩ rfl dX11_word_60) h (fun r56 f57 H locs p58 h => ?_)
                obtain ⟨er56, rfl⟩ := p58
                obtain rfl : (2 : Int32) = r56 := by rw [er56]; decide
                refine i_addk hx hb dX11_word_63 ipu0_3f3 (k := 2) rfl (lo := 2) (hi := 202) (by decide) (fun z59 ez59 mz59 iz59 => ?_)
                refine lv_istore_n (lv' := [(3, .int z59), (2, .int r2), (0, .ref u0), (1, .ref (G (20 + 3)))]) hx hb dX11_word_64 rfl hl (by decide) rfl (fun ls hl => ?_)
                refine lv_iload_n hx hb dX11_word_65 rfl (lv_at hl 0 rfl) ?_
                refine lv_aload_n hx hb dX11_word_66 rfl (lv_at hl 2 rfl) ?_
                refine t_getfd C h tf3 hu0 (by decide) wf_60 (v := .int ln) k5 fl_X11_79 dX11_word_67 ?_
                refine lv_icmp_ge (tgt := 97) hx hb dX11_word_70 (by decide) (fun c60 => ?_) (fun c60 => ?_)
                · have c61 : ln.toInt ≤ z59.toInt := Int32.le_iff_toInt_le.mp c60
                  refine lv_aload_n hx hb dX11_word_97 rfl (lv_at hl 2 rfl) ?_
                  refine lv_iload_n hx hb dX11_word_98 rfl (lv_at hl 0 rfl) ?_
                  refine t_put C h tf3 of3 hu0 (by decide) (by decide) (by decide) wf_60 fw_60 (k := 3) rfl flw_X11_90 (Or.inr ⟨_, _, _, rfl, rfl⟩) (v := .int z59) rfl rfl ⟨_, rfl, (show iv z59 0 200 from by omega)⟩ dX11_word_99 (fun f65 H locs h tf65 of65 hq ha_ hn_ hk_ => ?_)
                  have k66 := hk_ 2 _ (by decide) k5
                  have k67 := hk_ 1 _ (by decide) k6
                  have k68 := atp.tg k7 hq htq (by decide)
                  have k70 := ha_
                  refine lv_iconst (v := 1) hx hb dX11_word_102 (by decide) ?_
                  exact u_zret C h hr hQ ⟨by decide, by decide⟩ (⟨⟨by decide, by decide⟩, tf65, of65, (fun _ => ⟨by omega, by omega, by omega, by omega⟩), (fun h_ => absurd h_ (by decide)), ⟨z59, k70, (show iv z59 0 200 from by omega), (by have n1_ : (1 : Int32).toInt = 1 := rfl; have n0_ : (0 : Int32).toInt = 0 := rfl; omega)⟩⟩) (Nat.le_of_ble_eq_true rfl) (Nat.le_of_ble_eq_true rfl) dX11_word_103
                · have c62 : z59.toInt < ln.toInt := Int32.lt_iff_toInt_lt.mp (iv_nle c60)
                  have i63 : iv z59 2 199 := iv_Ll c62 iz59 i40 (by decide)
                  have i64 : iv ln 3 200 := iv_Lr c62 iz59 i40 (by decide)
                  refine lv_aload_n hx hb dX11_word_73 rfl (lv_at hl 2 rfl) ?_
                  refine t_getfd C h tf3 hu0 (by decide) wf_60 (v := .ref tq) k6 fl_X11_9 dX11_word_74 ?_
                  refine lv_iload_n hx hb dX11_word_77 rfl (lv_at hl 0 rfl) ?_
                  refine e_bald C h tf3 htq (by decide) wf_61 k7 (iv_in i63 (by decide)) dX11_word_78 (fun z71 ez71 iz71 => ?_)
                  have mz71 := congrArg Int32.toInt ez71
                  have hz71 := hB ((rn 32 32 B ln.toInt.toNat aa.toInt.toNat) + 2) (by omega)
                  have sz71 := sg_c hz71.2
                  have qz71 : z71.toInt = sg (B ((rn 32 32 B ln.toInt.toNat aa.toInt.toNat) + 2)) := by rw [mz71, ← hz71.1]; exact congrArg (fun z_ => (rt z_).toInt) (by omega)
                  refine lv_bipush (v := 97) hx hb dX11_word_79 (by decide) ?_
                  refine lv_icmp_lt (tgt := 97) hx hb dX11_word_81 (by decide) (fun c72 => ?_) (fun c72 => ?_)
                  · have c73 : z71.toInt < 97 := Int32.lt_iff_toInt_lt.mp c72
                    have i74 : iv z71 (-128) 96 := iv_Ll c73 iz71 (iv_k (x := 97) (k := 97) rfl) (by decide)
                    refine lv_aload_n hx hb dX11_word_97 rfl (lv_at hl 2 rfl) ?_
                    refine lv_iload_n hx hb dX11_word_98 rfl (lv_at hl 0 rfl) ?_
                    refine t_put C h tf3 of3 hu0 (by decide) (by decide) (by decide) wf_60 fw_60 (k := 3) rfl flw_X11_90 (Or.inr ⟨_, _, _, rfl, rfl⟩) (v := .int z59) rfl rfl ⟨_, rfl, (iv_w i63 (by decide))⟩ dX11_word_99 (fun f77 H locs h tf77 of77 hq ha_ hn_ hk_ => ?_)
                    have k78 := hk_ 2 _ (by decide) k5
                    have k79 := hk_ 1 _ (by decide) k6
                    have k80 := atp.tg k7 hq htq (by decide)
                    have k82 := ha_
                    refine lv_iconst (v := 1) hx hb dX11_word_102 (by decide) ?_
                    exact u_zret C h hr hQ ⟨by decide, by decide⟩ (⟨⟨by decide, by decide⟩, tf77, of77, (fun _ => ⟨by omega, by omega, by omega, by omega⟩), (fun h_ => absurd h_ (by decide)), ⟨z59, k82, (iv_w i63 (by decide)), (by have n1_ : (1 : Int32).toInt = 1 := rfl; have n0_ : (0 : Int32).toInt = 0 := rfl; omega)⟩⟩) (Nat.le_of_ble_eq_true rfl) (Nat.le_of_ble_eq_true rfl) dX11_word_103
                  · have c75 : 97 ≤ z71.toInt := Int32.le_iff_toInt_le.mp (iv_nlt c72)
                    have i76 : iv z71 97 127 := iv_Er c75 (iv_k (x := 97) (k := 97) rfl) iz71 (by decide)
                    refine lv_aload_n hx hb dX11_word_84 rfl (lv_at hl 2 rfl) ?_
                    refine t_getfd C h tf3 hu0 (by decide) wf_60 (v := .ref tq) k6 fl_X11_9 dX11_word_85 ?_
                    refine lv_iload_n hx hb dX11_word_88 rfl (lv_at hl 0 rfl) ?_
                    refine e_bald C h tf3 htq (by decide) wf_61 k7 (iv_in i63 (by decide)) dX11_word_89 (fun z83 ez83 iz83 => ?_)
                    have mz83 := congrArg Int32.toInt ez83
                    have hz83 := hB ((rn 32 32 B ln.toInt.toNat aa.toInt.toNat) + 2) (by omega)
                    have sz83 := sg_c hz83.2
                    have qz83 : z83.toInt = sg (B ((rn 32 32 B ln.toInt.toNat aa.toInt.toNat) + 2)) := by rw [mz83, ← hz83.1]; exact congrArg (fun z_ => (rt z_).toInt) (by omega)
                    refine lv_bipush (v := 122) hx hb dX11_word_90 (by decide) ?_
                    refine lv_icmp_gt (tgt := 97) hx hb dX11_word_92 (by decide) (fun c84 => ?_) (fun c84 => ?_)
                    · have c85 : 122 < z83.toInt := Int32.lt_iff_toInt_lt.mp c84
                      have i86 : iv z83 123 127 := iv_Lr c85 (iv_k (x := 122) (k := 122) rfl) iz83 (by decide)
                      refine lv_aload_n hx hb dX11_word_97 rfl (lv_at hl 2 rfl) ?_
                      refine lv_iload_n hx hb dX11_word_98 rfl (lv_at hl 0 rfl) ?_
                      refine t_put C h tf3 of3 hu0 (by decide) (by decide) (by decide) wf_60 fw_60 (k := 3) rfl flw_X11_90 (Or.inr ⟨_, _, _, rfl, rfl⟩) (v := .int z59) rfl rfl ⟨_, rfl, (iv_w i63 (by decide))⟩ dX11_word_99 (fun f89 H locs h tf89 of89 hq ha_ hn_ hk_ => ?_)
                      have k90 := hk_ 2 _ (by decide) k5
                      have k91 := hk_ 1 _ (by decide) k6
                      have k92 := atp.tg k7 hq htq (by decide)
                      have k94 := ha_
                      refine lv_iconst (v := 1) hx hb dX11_word_102 (by decide) ?_
                      exact u_zret C h hr hQ ⟨by decide, by decide⟩ (⟨⟨by decide, by decide⟩, tf89, of89, (fun _ => ⟨by omega, by omega, by omega, by omega⟩), (fun h_ => absurd h_ (by decide)), ⟨z59, k94, (iv_w i63 (by decide)), (by have n1_ : (1 : Int32).toInt = 1 := rfl; have n0_ : (0 : Int32).toInt = 0 := rfl; omega)⟩⟩) (Nat.le_of_ble_eq_true rfl) (Nat.le_of_ble_eq_true rfl) dX11_word_103
                    · have c87 : z83.toInt ≤ 122 := Int32.le_iff_toInt_le.mp (iv_nlt c84)
                      have i88 : iv z83 (-128) 122 := iv_El c87 iz83 (iv_k (x := 122) (k := 122) rfl) (by decide)
                      refine lv_iconst (v := 0) hx hb dX11_word_95 (by decide) ?_
                      exact u_zret C h hr hQ ⟨by decide, by decide⟩ (⟨⟨by decide, by decide⟩, tf3, of3, (fun h_ => absurd h_ (by decide)), (fun _ => (fun z_ => by obtain ⟨h1_, g0_, g1_, h9_⟩ := z_; omega)), ⟨aa1_f3, kpu0_3f3, ipu0_3f3, (by have n1_ : (1 : Int32).toInt = 1 := rfl; have n0_ : (0 : Int32).toInt = 0 := rfl; omega)⟩⟩) (Nat.le_of_ble_eq_true rfl) (Nat.le_of_ble_eq_true rfl) dX11_word_96
              · exact absurd c53 (by decide)
            · have c49 : z42.toInt ≠ 101 := fun z_ => c46 (Int32.toInt_inj.mp z_)
              refine lv_iconst (v := 0) hx hb dX11_word_47 (by decide) ?_
              exact u_zret C h hr hQ ⟨by decide, by decide⟩ (⟨⟨by decide, by decide⟩, tf3, of3, (fun h_ => absurd h_ (by decide)), (fun _ => (fun z_ => by obtain ⟨h1_, g0_, g1_, h9_⟩ := z_; omega)), ⟨aa1_f3, kpu0_3f3, ipu0_3f3, (by have n1_ : (1 : Int32).toInt = 1 := rfl; have n0_ : (0 : Int32).toInt = 0 := rfl; omega)⟩⟩) (Nat.le_of_ble_eq_true rfl) (Nat.le_of_ble_eq_true rfl) dX11_word_48
      · have c28 : z21.toInt ≠ 115 := fun z_ => c25 (Int32.toInt_inj.mp z_)
        refine lv_iconst (v := 0) hx hb dX11_word_47 (by decide) ?_
        exact u_zret C h hr hQ ⟨by decide, by decide⟩ (⟨⟨by decide, by decide⟩, tf3, of3, (fun h_ => absurd h_ (by decide)), (fun _ => (fun z_ => by obtain ⟨h1_, g0_, g1_, h9_⟩ := z_; omega)), ⟨aa1_f3, kpu0_3f3, ipu0_3f3, (by have n1_ : (1 : Int32).toInt = 1 := rfl; have n0_ : (0 : Int32).toInt = 0 := rfl; omega)⟩⟩) (Nat.le_of_ble_eq_true rfl) (Nat.le_of_ble_eq_true rfl) dX11_word_48
abbrev rm_s_X11_wordX4 : Room := { frames := 4, cells := 0, slots := 0, locals := 85 }
set_option maxRecDepth 100000 in
set_option maxHeartbeats 4000000 in
theorem s_X11_wordX4 (l : Launch) (D : va_G) (G : Nat → Nat) (b0 : Nat) (τ : Nat → Nat) (f : hM) (t : TI G 9 τ f) (u0 : Nat) (hu0 : τ u0 = 60) (ln : Int32) (hln : iv ln 0 200) (k_u0_2 : atp f u0 (fd 2 (.int ln))) (aa : Int32) (haa : iv aa 0 200) (k_u0_3 : atp f u0 (fd 3 (.int aa))) (tq : Nat) (htq : τ tq = 61) (k_u0_1 : atp f u0 (fd 1 (.ref tq))) (rt : Nat → Int32) (hRtq : atp f tq (eqc (.inl (G 0, 200, .inl rt)))) (B : Nat → Int) (hB : ∀ k : Nat, (k : Int) < ln.toInt → (rt k).toInt = sg (B k) ∧ 0 ≤ B k ∧ B k ≤ 255)  : mI l yX11_word cX11_word 4 (.boolean) rm_s_X11_wordX4 D G b0 f [.ref u0, .ref (G (20 + 4))] (fun r f1 => iv r 0 1 ∧ TI G 9 τ f1 ∧ Fr [60, 60004] τ f f1 ∧ (r.toInt ≠ 0 → (mw1 B ln.toInt.toNat (rn 32 32 B ln.toInt.toNat aa.toInt.toNat) 115)) ∧ (r.toInt = 0 → (¬ mw1 B ln.toInt.toNat (rn 32 32 B ln.toInt.toNat aa.toInt.toNat) 115)) ∧ (∃ aa1 : Int32, atp f1 u0 (fd 3 (.int aa1)) ∧ iv aa1 0 200 ∧ (r.toInt ≠ 0 → aa1.toInt = (((rn 32 32 B ln.toInt.toNat aa.toInt.toNat) : Nat) : Int) + 1) ∧ (r.toInt = 0 → aa1.toInt = (((rn 32 32 B ln.toInt.toNat aa.toInt.toNat) : Nat) : Int)))) := by
  refine met2 (own := RX11) (by decide) rfl (Nat.le_of_ble_eq_true rfl) ?_
  intro p e s m args below meth c ls Q hQ C hr hini hl h
  have hl : lv_has ls 4 [(0, .ref u0), (1, .ref (G (20 + 4)))] := hl
  obtain ⟨hx, hb, hml, hown, hts, hE0, hlk⟩ := id C
  have o := Fr.rf [60, 60004] τ f
  refine lv_aload_n hx hb dX11_word_0 rfl (lv_at hl 0 rfl) ?_
  obtain ⟨_, r1⟩ := t_rec t hu0 (by decide) wf_60
  refine k_i (r_V C h hl (As := []) (rest := []) (s_X11_lookX l D G b0 τ f t u0 hu0 ln hln k_u0_2 aa haa k_u0_3 tq htq k_u0_1 rt hRtq B hB) r1 (Cn := RX11) (T := TX11) (N := 32) rfl rfl mk_X11_look w_1557 w_1559 w_40 w_1560 ⟨Nat.le_of_ble_eq_true rfl, Nat.le_of_ble_eq_true rfl⟩ rfl (Nat.le_of_ble_eq_true rfl) ⟨Nat.le_of_ble_eq_true rfl, Nat.le_of_ble_eq_true rfl⟩ rfl dX11_word_1) h (fun r2 f3 H locs p4 h => ?_)
  obtain ⟨ir2, tf3, ogf3, x0r2, ⟨aa1_f3, kpu0_3f3, ipu0_3f3, rpu0_3f3⟩⟩ := p4
  have of3 : Fr [60, 60004] τ f f3 := Fr.tr o ogf3 (by decide) (by decide)
  have k5 := atp.fk k_u0_2 ogf3 hu0 (by decide) (by decide)
  have k6 := atp.fk k_u0_1 ogf3 hu0 (by decide) (by decide)
  have k7 := atp.fr hRtq ogf3 htq (by decide)
  refine lv_istore_n (lv' := [(2, .int r2), (0, .ref u0), (1, .ref (G (20 + 4)))]) hx hb dX11_word_4 rfl hl (by decide) rfl (fun ls hl => ?_)
  refine lv_iconst (v := 0) hx hb dX11_word_5 (by decide) ?_
  refine lv_istore_n (lv' := [(3, .int 0), (2, .int r2), (0, .ref u0), (1, .ref (G (20 + 4)))]) hx hb dX11_word_6 rfl hl (by decide) rfl (fun ls hl => ?_)
  refine lv_iload_n hx hb dX11_word_7 rfl (lv_at hl 0 rfl) ?_
  refine lv_aload_n hx hb dX11_word_8 rfl (lv_at hl 3 rfl) ?_
  have hrv := vk_recv hE0.2.2.2.2.2.2.2.2.2.1 (i := 4) (by decide) h.2.2.1
  refine k_i (r_VK C h hl (As := []) (rest := [.int 0]) (c_length l D G b0 f3 4 (by decide)) hrv mk_J0_length_8abf5 w_1574 w_1252 w_1253 w_1254 ⟨(Nat.le_of_ble_eq_true rfl), (Nat.le_of_ble_eq_true rfl)⟩ rfl (Nat.le_of_ble_eq_true rfl) ⟨(Nat.le_of_ble_eq_true rfl), (Nat.le_of_ble_eq_true rfl)⟩ rfl dX11_word_9) h (fun r8 f9 H locs p10 h => ?_)
  obtain ⟨er8, rfl⟩ := p10
  obtain rfl : (1 : Int32) = r8 := by rw [er8]; decide
  refine lv_icmp_ge (tgt := 55) hx hb dX11_word_12 (by decide) (fun c11 => ?_) (fun c11 => ?_)
  · exact absurd c11 (by decide)
  · refine lv_aload_n hx hb dX11_word_15 rfl (lv_at hl 2 rfl) ?_
    refine t_getfd C h tf3 hu0 (by decide) wf_60 (v := .int aa1_f3) kpu0_3f3 fl_X11_90 dX11_word_16 ?_
    refine lv_iload_n hx hb dX11_word_19 rfl (lv_at hl 0 rfl) ?_
    refine i_addk hx hb dX11_word_20 ipu0_3f3 (k := 0) rfl (lo := 0) (hi := 200) (by decide) (fun z14 ez14 mz14 iz14 => ?_)
    refine lv_aload_n hx hb dX11_word_21 rfl (lv_at hl 2 rfl) ?_
    refine t_getfd C h tf3 hu0 (by decide) wf_60 (v := .int ln) k5 fl_X11_79 dX11_word_22 ?_
    refine lv_icmp_ge (tgt := 47) hx hb dX11_word_25 (by decide) (fun c15 => ?_) (fun c15 => ?_)
    · have c16 : ln.toInt ≤ z14.toInt := Int32.le_iff_toInt_le.mp c15
      refine lv_iconst (v := 0) hx hb dX11_word_47 (by decide) ?_
      exact u_zret C h hr hQ ⟨by decide, by decide⟩ (⟨⟨by decide, by decide⟩, tf3, of3, (fun h_ => absurd h_ (by decide)), (fun _ => (fun z_ => by obtain ⟨h1_, g0_, h9_⟩ := z_; omega)), ⟨aa1_f3, kpu0_3f3, ipu0_3f3, (by have n1_ : (1 : Int32).toInt = 1 := rfl; have n0_ : (0 : Int32).toInt = 0 := rfl; omega)⟩⟩) (Nat.le_of_ble_eq_true rfl) (Nat.le_of_ble_eq_true rfl) dX11_word_48
    · have c17 : z14.toInt < ln.toInt := Int32.lt_iff_toInt_lt.mp (iv_nle c15)
      have i18 : iv z14 0 199 := iv_Ll c17 iz14 hln (by decide)
      have i19 : iv ln 1 200 := iv_Lr c17 iz14 hln (by decide)
      refine lv_aload_n hx hb dX11_word_28 rfl (lv_at hl 2 rfl) ?_
      refine t_getfd C h tf3 hu0 (by decide) wf_60 (v := .ref tq) k6 fl_X11_9 dX11_word_29 ?_
      refine lv_aload_n hx hb dX11_word_32 rfl (lv_at hl 2 rfl) ?_
      refine t_getfd C h tf3 hu0 (by decide) wf_60 (v := .int aa1_f3) kpu0_3f3 fl_X11_90 dX11_word_33 ?_
      refine lv_iload_n hx hb dX11_word_36 rfl (lv_at hl 0 rfl) ?_
      refine i_addk hx hb dX11_word_37 ipu0_3f3 (k := 0) rfl (lo := 0) (hi := 200) (by decide) (fun z20 ez20 mz20 iz20 => ?_)
      refine e_bald C h tf3 htq (by decide) wf_61 k7 (ix_o (by omega)) dX11_word_38 (fun z21 ez21 iz21 => ?_)
      have mz21 := congrArg Int32.toInt ez21
      have hz21 := hB (rn 32 32 B ln.toInt.toNat aa.toInt.toNat) (by omega)
      have sz21 := sg_c hz21.2
      have qz21 : z21.toInt = sg (B (rn 32 32 B ln.toInt.toNat aa.toInt.toNat)) := by rw [mz21, ← hz21.1]; exact congrArg (fun z_ => (rt z_).toInt) (by omega)
      refine lv_aload_n hx hb dX11_word_39 rfl (lv_at hl 3 rfl) ?_
      refine lv_iload_n hx hb dX11_word_40 rfl (lv_at hl 0 rfl) ?_
      have hrv := vk_recv hE0.2.2.2.2.2.2.2.2.2.1 (i := 4) (by decide) h.2.2.1
      refine k_i (r_VK C h hl (As := [.int 0]) (rest := [.int z21]) (c_charAt l D G b0 f3 4 (by decide) 0 (by decide) (by unfold vp_in; decide)) hrv mk_J0_charAt_5068e w_1575 w_473 w_474 w_475 ⟨(Nat.le_of_ble_eq_true rfl), (Nat.le_of_ble_eq_true rfl)⟩ rfl (Nat.le_of_ble_eq_true rfl) ⟨(Nat.le_of_ble_eq_true rfl), (Nat.le_of_ble_eq_true rfl)⟩ rfl dX11_word_41) h (fun r22 f23 H locs p24 h => ?_)
      obtain ⟨er22, rfl⟩ := p24
      obtain rfl : (115 : Int32) = r22 := by rw [er22]; decide
      refine lv_icmp_eq (tgt := 49) hx hb dX11_word_44 (by decide) (fun c25 => ?_) (fun c25 => ?_)
      · have c26 : z21.toInt = 115 := congrArg Int32.toInt c25
        have i27 : iv z21 115 115 := iv_Q c26 iz21 (iv_k (x := 115) (k := 115) rfl) (by decide)
        refine lv_iinc (v := 1) (lv' := [(3, .int 1), (2, .int r2), (0, .ref u0), (1, .ref (G (20 + 4)))]) hx hb dX11_word_49 hl (k := 0) rfl (by decide) (by decide) rfl (fun ls hl => ?_)
        refine lv_goto (tgt := 7) hx hb dX11_word_52 (by decide) ?_
        refine lv_iload_n hx hb dX11_word_7 rfl (lv_at hl 0 rfl) ?_
        refine lv_aload_n hx hb dX11_word_8 rfl (lv_at hl 3 rfl) ?_
        have hrv := vk_recv hE0.2.2.2.2.2.2.2.2.2.1 (i := 4) (by decide) h.2.2.1
        refine k_i (r_VK C h hl (As := []) (rest := [.int 1]) (c_length l D G b0 f3 4 (by decide)) hrv mk_J0_length_8abf5 w_1574 w_1252 w_1253 w_1254 ⟨(Nat.le_of_ble_eq_true rfl), (Nat.le_of_ble_eq_true rfl)⟩ rfl (Nat.le_of_ble_eq_true rfl) ⟨(Nat.le_of_ble_eq_true rfl), (Nat.le_of_ble_eq_true rfl)⟩ rfl dX11_word_9) h (fun r29 f30 H locs p31 h => ?_)
        obtain ⟨er29, rfl⟩ := p31
        obtain rfl : (1 : Int32) = r29 := by rw [er29]; decide
        refine lv_icmp_ge (tgt := 55) hx hb dX11_word_12 (by decide) (fun c32 => ?_) (fun c32 => ?_)
        · refine lv_aload_n hx hb dX11_word_55 rfl (lv_at hl 2 rfl) ?_
          refine t_getfd C h tf3 hu0 (by decide) wf_60 (v := .int aa1_f3) kpu0_3f3 fl_X11_90 dX11_word_56 ?_
          refine lv_aload_n hx hb dX11_word_59 rfl (lv_at hl 3 rfl) ?_
          have hrv := vk_recv hE0.2.2.2.2.2.2.2.2.2.1 (i := 4) (by decide) h.2.2.1
          refine k_i (r_VK C h hl (As := []) (rest := [.int aa1_f3]) (c_length l D G b0 f3 4 (by decide)) hrv mk_J0_length_8abf5 w_1574 w_1252 w_1253 w_1254 ⟨(Nat.le_of_ble_eq_true rfl), (Nat.le_of_ble_eq_true rfl)⟩ rfl (Nat.le_of_ble_eq_true rfl) ⟨(Nat.le_of_ble_eq_true rfl), (Nat.le_of_ble_eq_true rfl)⟩ rfl dX11_word_60) h (fun r35 f36 H locs p37 h => ?_)
          obtain ⟨er35, rfl⟩ := p37
          obtain rfl : (1 : Int32) = r35 := by rw [er35]; decide
          refine i_addk hx hb dX11_word_63 ipu0_3f3 (k := 1) rfl (lo := 1) (hi := 201) (by decide) (fun z38 ez38 mz38 iz38 => ?_)
          refine lv_istore_n (lv' := [(3, .int z38), (2, .int r2), (0, .ref u0), (1, .ref (G (20 + 4)))]) hx hb dX11_word_64 rfl hl (by decide) rfl (fun ls hl => ?_)
          refine lv_iload_n hx hb dX11_word_65 rfl (lv_at hl 0 rfl) ?_
          refine lv_aload_n hx hb dX11_word_66 rfl (lv_at hl 2 rfl) ?_
          refine t_getfd C h tf3 hu0 (by decide) wf_60 (v := .int ln) k5 fl_X11_79 dX11_word_67 ?_
          refine lv_icmp_ge (tgt := 97) hx hb dX11_word_70 (by decide) (fun c39 => ?_) (fun c39 => ?_)
          · have c40 : ln.toInt ≤ z38.toInt := Int32.le_iff_toInt_le.mp c39
            refine lv_aload_n hx hb dX11_word_97 rfl (lv_at hl 2 rfl) ?_
            refine lv_iload_n hx hb dX11_word_98 rfl (lv_at hl 0 rfl) ?_
            refine t_put C h tf3 of3 hu0 (by decide) (by decide) (by decide) wf_60 fw_60 (k := 3) rfl flw_X11_90 (Or.inr ⟨_, _, _, rfl, rfl⟩) (v := .int z38) rfl rfl ⟨_, rfl, (show iv z38 0 200 from by omega)⟩ dX11_word_99 (fun f44 H locs h tf44 of44 hq ha_ hn_ hk_ => ?_)
            have k45 := hk_ 2 _ (by decide) k5
            have k46 := hk_ 1 _ (by decide) k6
            have k47 := atp.tg k7 hq htq (by decide)
            have k49 := ha_
            refine lv_iconst (v := 1) hx hb dX11_word_102 (by decide) ?_
            exact u_zret C h hr hQ ⟨by decide, by decide⟩ (⟨⟨by decide, by decide⟩, tf44, of44, (fun _ => ⟨by omega, by omega, by omega⟩), (fun h_ => absurd h_ (by decide)), ⟨z38, k49, (show iv z38 0 200 from by omega), (by have n1_ : (1 : Int32).toInt = 1 := rfl; have n0_ : (0 : Int32).toInt = 0 := rfl; omega)⟩⟩) (Nat.le_of_ble_eq_true rfl) (Nat.le_of_ble_eq_true rfl) dX11_word_103
          · have c41 : z38.toInt < ln.toInt := Int32.lt_iff_toInt_lt.mp (iv_nle c39)
            have i42 : iv z38 1 199 := iv_Ll c41 iz38 i19 (by decide)
            have i43 : iv ln 2 200 := iv_Lr c41 iz38 i19 (by decide)
            refine lv_aload_n hx hb dX11_word_73 rfl (lv_at hl 2 rfl) ?_
            refine t_getfd C h tf3 hu0 (by decide) wf_60 (v := .ref tq) k6 fl_X11_9 dX11_word_74 ?_
            refine lv_iload_n hx hb dX11_word_77 rfl (lv_at hl 0 rfl) ?_
            refine e_bald C h tf3 htq (by decide) wf_61 k7 (iv_in i42 (by decide)) dX11_word_78 (fun z50 ez50 iz50 => ?_)
            have mz50 := congrArg Int32.toInt ez50
            have hz50 := hB ((rn 32 32 B ln.toInt.toNat aa.toInt.toNat) + 1) (by omega)
            have sz50 := sg_c hz50.2
            have qz50 : z50.toInt = sg (B ((rn 32 32 B ln.toInt.toNat aa.toInt.toNat) + 1)) := by rw [mz50, ← hz50.1]; exact congrArg (fun z_ => (rt z_).toInt) (by omega)
            refine lv_bipush (v := 97) hx hb dX11_word_79 (by decide) ?_
            refine lv_icmp_lt (tgt := 97) hx hb dX11_word_81 (by decide) (fun c51 => ?_) (fun c51 => ?_)
            · have c52 : z50.toInt < 97 := Int32.lt_iff_toInt_lt.mp c51
              have i53 : iv z50 (-128) 96 := iv_Ll c52 iz50 (iv_k (x := 97) (k := 97) rfl) (by decide)
              refine lv_aload_n hx hb dX11_word_97 rfl (lv_at hl 2 rfl) ?_
              refine lv_iload_n hx hb dX11_word_98 rfl (lv_at hl 0 rfl) ?_
              refine t_put C h tf3 of3 hu0 (by decide) (by decide) (by decide) wf_60 fw_60 (k := 3) rfl flw_X11_90 (Or.inr ⟨_, _, _, rfl, rfl⟩) (v := .int z38) rfl rfl ⟨_, rfl, (iv_w i42 (by decide))⟩ dX11_word_99 (fun f56 H locs h tf56 of56 hq ha_ hn_ hk_ => ?_)
              have k57 := hk_ 2 _ (by decide) k5
              have k58 := hk_ 1 _ (by decide) k6
              have k59 := atp.tg k7 hq htq (by decide)
              have k61 := ha_
              refine lv_iconst (v := 1) hx hb dX11_word_102 (by decide) ?_
              exact u_zret C h hr hQ ⟨by decide, by decide⟩ (⟨⟨by decide, by decide⟩, tf56, of56, (fun _ => ⟨by omega, by omega, by omega⟩), (fun h_ => absurd h_ (by decide)), ⟨z38, k61, (iv_w i42 (by decide)), (by have n1_ : (1 : Int32).toInt = 1 := rfl; have n0_ : (0 : Int32).toInt = 0 := rfl; omega)⟩⟩) (Nat.le_of_ble_eq_true rfl) (Nat.le_of_ble_eq_true rfl) dX11_word_103
            · have c54 : 97 ≤ z50.toInt := Int32.le_iff_toInt_le.mp (iv_nlt c51)
              have i55 : iv z50 97 127 := iv_Er c54 (iv_k (x := 97) (k := 97) rfl) iz50 (by decide)
              refine lv_aload_n hx hb dX11_word_84 rfl (lv_at hl 2 rfl) ?_
              refine t_getfd C h tf3 hu0 (by decide) wf_60 (v := .ref tq) k6 fl_X11_9 dX11_word_85 ?_
              refine lv_iload_n hx hb dX11_word_88 rfl (lv_at hl 0 rfl) ?_
              refine e_bald C h tf3 htq (by decide) wf_61 k7 (iv_in i42 (by decide)) dX11_word_89 (fun z62 ez62 iz62 => ?_)
              have mz62 := congrArg Int32.toInt ez62
              have hz62 := hB ((rn 32 32 B ln.toInt.toNat aa.toInt.toNat) + 1) (by omega)
              have sz62 := sg_c hz62.2
              have qz62 : z62.toInt = sg (B ((rn 32 32 B ln.toInt.toNat aa.toInt.toNat) + 1)) := by rw [mz62, ← hz62.1]; exact congrArg (fun z_ => (rt z_).toInt) (by omega)
              refine lv_bipush (v := 122) hx hb dX11_word_90 (by decide) ?_
              refine lv_icmp_gt (tgt := 97) hx hb dX11_word_92 (by decide) (fun c63 => ?_) (fun c63 => ?_)
              · have c64 : 122 < z62.toInt := Int32.lt_iff_toInt_lt.mp c63
                have i65 : iv z62 123 127 := iv_Lr c64 (iv_k (x := 122) (k := 122) rfl) iz62 (by decide)
                refine lv_aload_n hx hb dX11_word_97 rfl (lv_at hl 2 rfl) ?_
                refine lv_iload_n hx hb dX11_word_98 rfl (lv_at hl 0 rfl) ?_
                refine t_put C h tf3 of3 hu0 (by decide) (by decide) (by decide) wf_60 fw_60 (k := 3) rfl flw_X11_90 (Or.inr ⟨_, _, _, rfl, rfl⟩) (v := .int z38) rfl rfl ⟨_, rfl, (iv_w i42 (by decide))⟩ dX11_word_99 (fun f68 H locs h tf68 of68 hq ha_ hn_ hk_ => ?_)
                have k69 := hk_ 2 _ (by decide) k5
                have k70 := hk_ 1 _ (by decide) k6
                have k71 := atp.tg k7 hq htq (by decide)
                have k73 := ha_
                refine lv_iconst (v := 1) hx hb dX11_word_102 (by decide) ?_
                exact u_zret C h hr hQ ⟨by decide, by decide⟩ (⟨⟨by decide, by decide⟩, tf68, of68, (fun _ => ⟨by omega, by omega, by omega⟩), (fun h_ => absurd h_ (by decide)), ⟨z38, k73, (iv_w i42 (by decide)), (by have n1_ : (1 : Int32).toInt = 1 := rfl; have n0_ : (0 : Int32).toInt = 0 := rfl; omega)⟩⟩) (Nat.le_of_ble_eq_true rfl) (Nat.le_of_ble_eq_true rfl) dX11_word_103
              · have c66 : z62.toInt ≤ 122 := Int32.le_iff_toInt_le.mp (iv_nlt c63)
                have i67 : iv z62 (-128) 122 := iv_El c66 iz62 (iv_k (x := 122) (k := 122) rfl) (by decide)
                refine lv_iconst (v := 0) hx hb dX11_word_95 (by decide) ?_
                exact u_zret C h hr hQ ⟨by decide, by decide⟩ (⟨⟨by decide, by decide⟩, tf3, of3, (fun h_ => absurd h_ (by decide)), (fun _ => (fun z_ => by obtain ⟨h1_, g0_, h9_⟩ := z_; omega)), ⟨aa1_f3, kpu0_3f3, ipu0_3f3, (by have n1_ : (1 : Int32).toInt = 1 := rfl; have n0_ : (0 : Int32).toInt = 0 := rfl; omega)⟩⟩) (Nat.le_of_ble_eq_true rfl) (Nat.le_of_ble_eq_true rfl) dX11_word_96
        · exact absurd c32 (by decide)
      · have c28 : z21.toInt ≠ 115 := fun z_ => c25 (Int32.toInt_inj.mp z_)
        refine lv_iconst (v := 0) hx hb dX11_word_47 (by decide) ?_
        exact u_zret C h hr hQ ⟨by decide, by decide⟩ (⟨⟨by decide, by decide⟩, tf3, of3, (fun h_ => absurd h_ (by decide)), (fun _ => (fun z_ => by obtain ⟨h1_, g0_, h9_⟩ := z_; omega)), ⟨aa1_f3, kpu0_3f3, ipu0_3f3, (by have n1_ : (1 : Int32).toInt = 1 := rfl; have n0_ : (0 : Int32).toInt = 0 := rfl; omega)⟩⟩) (Nat.le_of_ble_eq_true rfl) (Nat.le_of_ble_eq_true rfl) dX11_word_48
abbrev rm_s_X11_wordX5 : Room := { frames := 4, cells := 0, slots := 0, locals := 85 }
set_option maxRecDepth 100000 in
set_option maxHeartbeats 4000000 in
theorem s_X11_wordX5 (l : Launch) (D : va_G) (G : Nat → Nat) (b0 : Nat) (τ : Nat → Nat) (f : hM) (t : TI G 9 τ f) (u0 : Nat) (hu0 : τ u0 = 60) (ln : Int32) (hln : iv ln 0 200) (k_u0_2 : atp f u0 (fd 2 (.int ln))) (aa : Int32) (haa : iv aa 0 200) (k_u0_3 : atp f u0 (fd 3 (.int aa))) (tq : Nat) (htq : τ tq = 61) (k_u0_1 : atp f u0 (fd 1 (.ref tq))) (rt : Nat → Int32) (hRtq : atp f tq (eqc (.inl (G 0, 200, .inl rt)))) (B : Nat → Int) (hB : ∀ k : Nat, (k : Int) < ln.toInt → (rt k).toInt = sg (B k) ∧ 0 ≤ B k ∧ B k ≤ 255)  : mI l yX11_word cX11_word 4 (.boolean) rm_s_X11_wordX5 D G b0 f [.ref u0, .ref (G (20 + 5))] (fun r f1 => iv r 0 1 ∧ TI G 9 τ f1 ∧ Fr [60, 60004] τ f f1 ∧ (r.toInt ≠ 0 → (mw2 B ln.toInt.toNat (rn 32 32 B ln.toInt.toNat aa.toInt.toNat) 115 119)) ∧ (r.toInt = 0 → (¬ mw2 B ln.toInt.toNat (rn 32 32 B ln.toInt.toNat aa.toInt.toNat) 115 119)) ∧ (∃ aa1 : Int32, atp f1 u0 (fd 3 (.int aa1)) ∧ iv aa1 0 200 ∧ (r.toInt ≠ 0 → aa1.toInt = (((rn 32 32 B ln.toInt.toNat aa.toInt.toNat) : Nat) : Int) + 2) ∧ (r.toInt = 0 → aa1.toInt = (((rn 32 32 B ln.toInt.toNat aa.toInt.toNat) : Nat) : Int)))) := by
  refine met2 (own := RX11) (by decide) rfl (Nat.le_of_ble_eq_true rfl) ?_
  intro p e s m args below meth c ls Q hQ C hr hini hl h
  have hl : lv_has ls 4 [(0, .ref u0), (1, .ref (G (20 + 5)))] := hl
  obtain ⟨hx, hb, hml, hown, hts, hE0, hlk⟩ := id C
  have o := Fr.rf [60, 60004] τ f
  refine lv_aload_n hx hb dX11_word_0 rfl (lv_at hl 0 rfl) ?_
  obtain ⟨_, r1⟩ := t_rec t hu0 (by decide) wf_60
  refine k_i (r_V C h hl (As := []) (rest := []) (s_X11_lookX l D G b0 τ f t u0 hu0 ln hln k_u0_2 aa haa k_u0_3 tq htq k_u0_1 rt hRtq B hB) r1 (Cn := RX11) (T := TX11) (N := 32) rfl rfl mk_X11_look w_1557 w_1559 w_40 w_1560 ⟨Nat.le_of_ble_eq_true rfl, Nat.le_of_ble_eq_true rfl⟩ rfl (Nat.le_of_ble_eq_true rfl) ⟨Nat.le_of_ble_eq_true rfl, Nat.le_of_ble_eq_true rfl⟩ rfl dX11_word_1) h (fun r2 f3 H locs p4 h => ?_)
  obtain ⟨ir2, tf3, ogf3, x0r2, ⟨aa1_f3, kpu0_3f3, ipu0_3f3, rpu0_3f3⟩⟩ := p4
  have of3 : Fr [60, 60004] τ f f3 := Fr.tr o ogf3 (by decide) (by decide)
  have k5 := atp.fk k_u0_2 ogf3 hu0 (by decide) (by decide)
  have k6 := atp.fk k_u0_1 ogf3 hu0 (by decide) (by decide)
  have k7 := atp.fr hRtq ogf3 htq (by decide)
  refine lv_istore_n (lv' := [(2, .int r2), (0, .ref u0), (1, .ref (G (20 + 5)))]) hx hb dX11_word_4 rfl hl (by decide) rfl (fun ls hl => ?_)
  refine lv_iconst (v := 0) hx hb dX11_word_5 (by decide) ?_
  refine lv_istore_n (lv' := [(3, .int 0), (2, .int r2), (0, .ref u0), (1, .ref (G (20 + 5)))]) hx hb dX11_word_6 rfl hl (by decide) rfl (fun ls hl => ?_)
  refine lv_iload_n hx hb dX11_word_7 rfl (lv_at hl 0 rfl) ?_
  refine lv_aload_n hx hb dX11_word_8 rfl (lv_at hl 3 rfl) ?_
  have hrv := vk_recv hE0.2.2.2.2.2.2.2.2.2.1 (i := 5) (by decide) h.2.2.1
  refine k_i (r_VK C h hl (As := []) (rest := [.int 0]) (c_length l D G b0 f3 5 (by decide)) hrv mk_J0_length_8abf5 w_1574 w_1252 w_1253 w_1254 ⟨(Nat.le_of_ble_eq_true rfl), (Nat.le_of_ble_eq_true rfl)⟩ rfl (Nat.le_of_ble_eq_true rfl) ⟨(Nat.le_of_ble_eq_true rfl), (Nat.le_of_ble_eq_true rfl)⟩ rfl dX11_word_9) h (fun r8 f9 H locs p10 h => ?_)
  obtain ⟨er8, rfl⟩ := p10
  obtain rfl : (2 : Int32) = r8 := by rw [er8]; decide
  refine lv_icmp_ge (tgt := 55) hx hb dX11_word_12 (by decide) (fun c11 => ?_) (fun c11 => ?_)
  · exact absurd c11 (by decide)
  · refine lv_aload_n hx hb dX11_word_15 rfl (lv_at hl 2 rfl) ?_
    refine t_getfd C h tf3 hu0 (by decide) wf_60 (v := .int aa1_f3) kpu0_3f3 fl_X11_90 dX11_word_16 ?_
    refine lv_iload_n hx hb dX11_word_19 rfl (lv_at hl 0 rfl) ?_
    refine i_addk hx hb dX11_word_20 ipu0_3f3 (k := 0) rfl (lo := 0) (hi := 200) (by decide) (fun z14 ez14 mz14 iz14 => ?_)
    refine lv_aload_n hx hb dX11_word_21 rfl (lv_at hl 2 rfl) ?_
    refine t_getfd C h tf3 hu0 (by decide) wf_60 (v := .int ln) k5 fl_X11_79 dX11_word_22 ?_
    refine lv_icmp_ge (tgt := 47) hx hb dX11_word_25 (by decide) (fun c15 => ?_) (fun c15 => ?_)
    · have c16 : ln.toInt ≤ z14.toInt := Int32.le_iff_toInt_le.mp c15
      refine lv_iconst (v := 0) hx hb dX11_word_47 (by decide) ?_
      exact u_zret C h hr hQ ⟨by decide, by decide⟩ (⟨⟨by decide, by decide⟩, tf3, of3, (fun h_ => absurd h_ (by decide)), (fun _ => (fun z_ => by obtain ⟨h1_, g0_, g1_, h9_⟩ := z_; omega)), ⟨aa1_f3, kpu0_3f3, ipu0_3f3, (by have n1_ : (1 : Int32).toInt = 1 := rfl; have n0_ : (0 : Int32).toInt = 0 := rfl; omega)⟩⟩) (Nat.le_of_ble_eq_true rfl) (Nat.le_of_ble_eq_true rfl) dX11_word_48
    · have c17 : z14.toInt < ln.toInt := Int32.lt_iff_toInt_lt.mp (iv_nle c15)
      have i18 : iv z14 0 199 := iv_Ll c17 iz14 hln (by decide)
      have i19 : iv ln 1 200 := iv_Lr c17 iz14 hln (by decide)
      refine lv_aload_n hx hb dX11_word_28 rfl (lv_at hl 2 rfl) ?_
      refine t_getfd C h tf3 hu0 (by decide) wf_60 (v := .ref tq) k6 fl_X11_9 dX11_word_29 ?_
      refine lv_aload_n hx hb dX11_word_32 rfl (lv_at hl 2 rfl) ?_
      refine t_getfd C h tf3 hu0 (by decide) wf_60 (v := .int aa1_f3) kpu0_3f3 fl_X11_90 dX11_word_33 ?_
      refine lv_iload_n hx hb dX11_word_36 rfl (lv_at hl 0 rfl) ?_
      refine i_addk hx hb dX11_word_37 ipu0_3f3 (k := 0) rfl (lo := 0) (hi := 200) (by decide) (fun z20 ez20 mz20 iz20 => ?_)
      refine e_bald C h tf3 htq (by decide) wf_61 k7 (ix_o (by omega)) dX11_word_38 (fun z21 ez21 iz21 => ?_)
      have mz21 := congrArg Int32.toInt ez21
      have hz21 := hB (rn 32 32 B ln.toInt.toNat aa.toInt.toNat) (by omega)
      have sz21 := sg_c hz21.2
      have qz21 : z21.toInt = sg (B (rn 32 32 B ln.toInt.toNat aa.toInt.toNat)) := by rw [mz21, ← hz21.1]; exact congrArg (fun z_ => (rt z_).toInt) (by omega)
      refine lv_aload_n hx hb dX11_word_39 rfl (lv_at hl 3 rfl) ?_
      refine lv_iload_n hx hb dX11_word_40 rfl (lv_at hl 0 rfl) ?_
      have hrv := vk_recv hE0.2.2.2.2.2.2.2.2.2.1 (i := 5) (by decide) h.2.2.1
      refine k_i (r_VK C h hl (As := [.int 0]) (rest := [.int z21]) (c_charAt l D G b0 f3 5 (by decide) 0 (by decide) (by unfold vp_in; decide)) hrv mk_J0_charAt_5068e w_1575 w_473 w_474 w_475 ⟨(Nat.le_of_ble_eq_true rfl), (Nat.le_of_ble_eq_true rfl)⟩ rfl (Nat.le_of_ble_eq_true rfl) ⟨(Nat.le_of_ble_eq_true rfl), (Nat.le_of_ble_eq_true rfl)⟩ rfl dX11_word_41) h (fun r22 f23 H locs p24 h => ?_)
      obtain ⟨er22, rfl⟩ := p24
      obtain rfl : (115 : Int32) = r22 := by rw [er22]; decide
      refine lv_icmp_eq (tgt := 49) hx hb dX11_word_44 (by decide) (fun c25 => ?_) (fun c25 => ?_)
      · have c26 : z21.toInt = 115 := congrArg Int32.toInt c25
        have i27 : iv z21 115 115 := iv_Q c26 iz21 (iv_k (x := 115) (k := 115) rfl) (by decide)
        refine lv_iinc (v := 1) (lv' := [(3, .int 1), (2, .int r2), (0, .ref u0), (1, .ref (G (20 + 5)))]) hx hb dX11_word_49 hl (k := 0) rfl (by decide) (by decide) rfl (fun ls hl => ?_)
        refine lv_goto (tgt := 7) hx hb dX11_word_52 (by decide) ?_
        refine lv_iload_n hx hb dX11_word_7 rfl (lv_at hl 0 rfl) ?_
        refine lv_aload_n hx hb dX11_word_8 rfl (lv_at hl 3 rfl) ?_
        have hrv := vk_recv hE0.2.2.2.2.2.2.2.2.2.1 (i := 5) (by decide) h.2.2.1
        refine k_i (r_VK C h hl (As := []) (rest := [.int 1]) (c_length l D G b0 f3 5 (by decide)) hrv mk_J0_length_8abf5 w_1574 w_1252 w_1253 w_1254 ⟨(Nat.le_of_ble_eq_true rfl), (Nat.le_of_ble_eq_true rfl)⟩ rfl (Nat.le_of_ble_eq_true rfl) ⟨(Nat.le_of_ble_eq_true rfl), (Nat.le_of_ble_eq_true rfl)⟩ rfl dX11_word_9) h (fun r29 f30 H locs p31 h => ?_)
        obtain ⟨er29, rfl⟩ := p31
        obtain rfl : (2 : Int32) = r29 := by rw [er29]; decide
        refine lv_icmp_ge (tgt := 55) hx hb dX11_word_12 (by decide) (fun c32 => ?_) (fun c32 => ?_)
        · exact absurd c32 (by decide)
        · refine lv_aload_n hx hb dX11_word_15 rfl (lv_at hl 2 rfl) ?_
          refine t_getfd C h tf3 hu0 (by decide) wf_60 (v := .int aa1_f3) kpu0_3f3 fl_X11_90 dX11_word_16 ?_
          refine lv_iload_n hx hb dX11_word_19 rfl (lv_at hl 0 rfl) ?_
          refine i_addk hx hb dX11_word_20 ipu0_3f3 (k := 1) rfl (lo := 1) (hi := 201) (by decide) (fun z35 ez35 mz35 iz35 => ?_)
          refine lv_aload_n hx hb dX11_word_21 rfl (lv_at hl 2 rfl) ?_
          refine t_getfd C h tf3 hu0 (by decide) wf_60 (v := .int ln) k5 fl_X11_79 dX11_word_22 ?_
          refine lv_icmp_ge (tgt := 47) hx hb dX11_word_25 (by decide) (fun c36 => ?_) (fun c36 => ?_)
          · have c37 : ln.toInt ≤ z35.toInt := Int32.le_iff_toInt_le.mp c36
            refine lv_iconst (v := 0) hx hb dX11_word_47 (by decide) ?_
            exact u_zret C h hr hQ ⟨by decide, by decide⟩ (⟨⟨by decide, by decide⟩, tf3, of3, (fun h_ => absurd h_ (by decide)), (fun _ => (fun z_ => by obtain ⟨h1_, g0_, g1_, h9_⟩ := z_; omega)), ⟨aa1_f3, kpu0_3f3, ipu0_3f3, (by have n1_ : (1 : Int32).toInt = 1 := rfl; have n0_ : (0 : Int32).toInt = 0 := rfl; omega)⟩⟩) (Nat.le_of_ble_eq_true rfl) (Nat.le_of_ble_eq_true rfl) dX11_word_48
          · have c38 : z35.toInt < ln.toInt := Int32.lt_iff_toInt_lt.mp (iv_nle c36)
            have i39 : iv z35 1 199 := iv_Ll c38 iz35 i19 (by decide)
            have i40 : iv ln 2 200 := iv_Lr c38 iz35 i19 (by decide)
            refine lv_aload_n hx hb dX11_word_28 rfl (lv_at hl 2 rfl) ?_
            refine t_getfd C h tf3 hu0 (by decide) wf_60 (v := .ref tq) k6 fl_X11_9 dX11_word_29 ?_
            refine lv_aload_n hx hb dX11_word_32 rfl (lv_at hl 2 rfl) ?_
            refine t_getfd C h tf3 hu0 (by decide) wf_60 (v := .int aa1_f3) kpu0_3f3 fl_X11_90 dX11_word_33 ?_
            refine lv_iload_n hx hb dX11_word_36 rfl (lv_at hl 0 rfl) ?_
            refine i_addk hx hb dX11_word_37 ipu0_3f3 (k := 1) rfl (lo := 1) (hi := 201) (by decide) (fun z41 ez41 mz41 iz41 => ?_)
            refine e_bald C h tf3 htq (by decide) wf_61 k7 (ix_o (by omega)) dX11_word_38 (fun z42 ez42 iz42 => ?_)
            have mz42 := congrArg Int32.toInt ez42
            have hz42 := hB ((rn 32 32 B ln.toInt.toNat aa.toInt.toNat) + 1) (by omega)
            have sz42 := sg_c hz42.2
            have qz42 : z42.toInt = sg (B ((rn 32 32 B ln.toInt.toNat aa.toInt.toNat) + 1)) := by rw [mz42, ← hz42.1]; exact congrArg (fun z_ => (rt z_).toInt) (by omega)
            refine lv_aload_n hx hb dX11_word_39 rfl (lv_at hl 3 rfl) ?_
            refine lv_iload_n hx hb dX11_word_40 rfl (lv_at hl 0 rfl) ?_
            have hrv := vk_recv hE0.2.2.2.2.2.2.2.2.2.1 (i := 5) (by decide) h.2.2.1
            refine k_i (r_VK C h hl (As := [.int 1]) (rest := [.int z42]) (c_charAt l D G b0 f3 5 (by decide) 1 (by decide) (by unfold vp_in; decide)) hrv mk_J0_charAt_5068e w_1575 w_473 w_474 w_475 ⟨(Nat.le_of_ble_eq_true rfl), (Nat.le_of_ble_eq_true rfl)⟩ rfl (Nat.le_of_ble_eq_true rfl) ⟨(Nat.le_of_ble_eq_true rfl), (Nat.le_of_ble_eq_true rfl)⟩ rfl dX11_word_41) h (fun r43 f44 H locs p45 h => ?_)
            obtain ⟨er43, rfl⟩ := p45
            obtain rfl : (119 : Int32) = r43 := by rw [er43]; decide
            refine lv_icmp_eq (tgt := 49) hx hb dX11_word_44 (by decide) (fun c46 => ?_) (fun c46 => ?_)
            · have c47 : z42.toInt = 119 := congrArg Int32.toInt c46
              have i48 : iv z42 119 119 := iv_Q c47 iz42 (iv_k (x := 119) (k := 119) rfl) (by decide)
              refine lv_iinc (v := 2) (lv' := [(3, .int 2), (2, .int r2), (0, .ref u0), (1, .ref (G (20 + 5)))]) hx hb dX11_word_49 hl (k := 0) rfl (by decide) (by decide) rfl (fun ls hl => ?_)
              refine lv_goto (tgt := 7) hx hb dX11_word_52 (by decide) ?_
              refine lv_iload_n hx hb dX11_word_7 rfl (lv_at hl 0 rfl) ?_
              refine lv_aload_n hx hb dX11_word_8 rfl (lv_at hl 3 rfl) ?_
              have hrv := vk_recv hE0.2.2.2.2.2.2.2.2.2.1 (i := 5) (by decide) h.2.2.1
              refine k_i (r_VK C h hl (As := []) (rest := [.int 2]) (c_length l D G b0 f3 5 (by decide)) hrv mk_J0_length_8abf5 w_1574 w_1252 w_1253 w_1254 ⟨(Nat.le_of_ble_eq_true rfl), (Nat.le_of_ble_eq_true rfl)⟩ rfl (Nat.le_of_ble_eq_true rfl) ⟨(Nat.le_of_ble_eq_true rfl), (Nat.le_of_ble_eq_true rfl)⟩ rfl dX11_word_9) h (fun r50 f51 H locs p52 h => ?_)
              obtain ⟨er50, rfl⟩ := p52
              obtain rfl : (2 : Int32) = r50 := by rw [er50]; decide
              refine lv_icmp_ge (tgt := 55) hx hb dX11_word_12 (by decide) (fun c53 => ?_) (fun c53 => ?_)
              · refine lv_aload_n hx hb dX11_word_55 rfl (lv_at hl 2 rfl) ?_
                refine t_getfd C h tf3 hu0 (by decide) wf_60 (v := .int aa1_f3) kpu0_3f3 fl_X11_90 dX11_word_56 ?_
                refine lv_aload_n hx hb dX11_word_59 rfl (lv_at hl 3 rfl) ?_
                have hrv := vk_recv hE0.2.2.2.2.2.2.2.2.2.1 (i := 5) (by decide) h.2.2.1
                refine k_i (r_VK C h hl (As := []) (rest := [.int aa1_f3]) (c_length l D G b0 f3 5 (by decide)) hrv mk_J0_length_8abf5 w_1574 w_1252 w_1253 w_1254 ⟨(Nat.le_of_ble_eq_true rfl), (Nat.le_of_ble_eq_true rfl)⟩ rfl (Nat.le_of_ble_eq_true rfl) ⟨(Nat.le_of_ble_eq_true rfl), (Nat.le_of_ble_eq_true rfl)⟩ rfl dX11_word_60) h (fun r56 f57 H locs p58 h => ?_)
                obtain ⟨er56, rfl⟩ := p58
                obtain rfl : (2 : Int32) = r56 := by rw [er56]; decide
                refine i_addk hx hb dX11_word_63 ipu0_3f3 (k := 2) rfl (lo := 2) (hi := 202) (by decide) (fun z59 ez59 mz59 iz59 => ?_)
                refine lv_istore_n (lv' := [(3, .int z59), (2, .int r2), (0, .ref u0), (1, .ref (G (20 + 5)))]) hx hb dX11_word_64 rfl hl (by decide) rfl (fun ls hl => ?_)
                refine lv_iload_n hx hb dX11_word_65 rfl (lv_at hl 0 rfl) ?_
                refine lv_aload_n hx hb dX11_word_66 rfl (lv_at hl 2 rfl) ?_
                refine t_getfd C h tf3 hu0 (by decide) wf_60 (v := .int ln) k5 fl_X11_79 dX11_word_67 ?_
                refine lv_icmp_ge (tgt := 97) hx hb dX11_word_70 (by decide) (fun c60 => ?_) (fun c60 => ?_)
                · have c61 : ln.toInt ≤ z59.toInt := Int32.le_iff_toInt_le.mp c60
                  refine lv_aload_n hx hb dX11_word_97 rfl (lv_at hl 2 rfl) ?_
                  refine lv_iload_n hx hb dX11_word_98 rfl (lv_at hl 0 rfl) ?_
                  refine t_put C h tf3 of3 hu0 (by decide) (by decide) (by decide) wf_60 fw_60 (k := 3) rfl flw_X11_90 (Or.inr ⟨_, _, _, rfl, rfl⟩) (v := .int z59) rfl rfl ⟨_, rfl, (show iv z59 0 200 from by omega)⟩ dX11_word_99 (fun f65 H locs h tf65 of65 hq ha_ hn_ hk_ => ?_)
                  have k66 := hk_ 2 _ (by decide) k5
                  have k67 := hk_ 1 _ (by decide) k6
                  have k68 := atp.tg k7 hq htq (by decide)
                  have k70 := ha_
                  refine lv_iconst (v := 1) hx hb dX11_word_102 (by decide) ?_
                  exact u_zret C h hr hQ ⟨by decide, by decide⟩ (⟨⟨by decide, by decide⟩, tf65, of65, (fun _ => ⟨by omega, by omega, by omega, by omega⟩), (fun h_ => absurd h_ (by decide)), ⟨z59, k70, (show iv z59 0 200 from by omega), (by have n1_ : (1 : Int32).toInt = 1 := rfl; have n0_ : (0 : Int32).toInt = 0 := rfl; omega)⟩⟩) (Nat.le_of_ble_eq_true rfl) (Nat.le_of_ble_eq_true rfl) dX11_word_103
                · have c62 : z59.toInt < ln.toInt := Int32.lt_iff_toInt_lt.mp (iv_nle c60)
                  have i63 : iv z59 2 199 := iv_Ll c62 iz59 i40 (by decide)
                  have i64 : iv ln 3 200 := iv_Lr c62 iz59 i40 (by decide)
                  refine lv_aload_n hx hb dX11_word_73 rfl (lv_at hl 2 rfl) ?_
                  refine t_getfd C h tf3 hu0 (by decide) wf_60 (v := .ref tq) k6 fl_X11_9 dX11_word_74 ?_
                  refine lv_iload_n hx hb dX11_word_77 rfl (lv_at hl 0 rfl) ?_
                  refine e_bald C h tf3 htq (by decide) wf_61 k7 (iv_in i63 (by decide)) dX11_word_78 (fun z71 ez71 iz71 => ?_)
                  have mz71 := congrArg Int32.toInt ez71
                  have hz71 := hB ((rn 32 32 B ln.toInt.toNat aa.toInt.toNat) + 2) (by omega)
                  have sz71 := sg_c hz71.2
                  have qz71 : z71.toInt = sg (B ((rn 32 32 B ln.toInt.toNat aa.toInt.toNat) + 2)) := by rw [mz71, ← hz71.1]; exact congrArg (fun z_ => (rt z_).toInt) (by omega)
                  refine lv_bipush (v := 97) hx hb dX11_word_79 (by decide) ?_
                  refine lv_icmp_lt (tgt := 97) hx hb dX11_word_81 (by decide) (fun c72 => ?_) (fun c72 => ?_)
                  · have c73 : z71.toInt < 97 := Int32.lt_iff_toInt_lt.mp c72
                    have i74 : iv z71 (-128) 96 := iv_Ll c73 iz71 (iv_k (x := 97) (k := 97) rfl) (by decide)
                    refine lv_aload_n hx hb dX11_word_97 rfl (lv_at hl 2 rfl) ?_
                    refine lv_iload_n hx hb dX11_word_98 rfl (lv_at hl 0 rfl) ?_
                    refine t_put C h tf3 of3 hu0 (by decide) (by decide) (by decide) wf_60 fw_60 (k := 3) rfl flw_X11_90 (Or.inr ⟨_, _, _, rfl, rfl⟩) (v := .int z59) rfl rfl ⟨_, rfl, (iv_w i63 (by decide))⟩ dX11_word_99 (fun f77 H locs h tf77 of77 hq ha_ hn_ hk_ => ?_)
                    have k78 := hk_ 2 _ (by decide) k5
                    have k79 := hk_ 1 _ (by decide) k6
                    have k80 := atp.tg k7 hq htq (by decide)
                    have k82 := ha_
                    refine lv_iconst (v := 1) hx hb dX11_word_102 (by decide) ?_
                    exact u_zret C h hr hQ ⟨by decide, by decide⟩ (⟨⟨by decide, by decide⟩, tf77, of77, (fun _ => ⟨by omega, by omega, by omega, by omega⟩), (fun h_ => absurd h_ (by decide)), ⟨z59, k82, (iv_w i63 (by decide)), (by have n1_ : (1 : Int32).toInt = 1 := rfl; have n0_ : (0 : Int32).toInt = 0 := rfl; omega)⟩⟩) (Nat.le_of_ble_eq_true rfl) (Nat.le_of_ble_eq_true rfl) dX11_word_103
                  · have c75 : 97 ≤ z71.toInt := Int32.le_iff_toInt_le.mp (iv_nlt c72)
                    have i76 : iv z71 97 127 := iv_Er c75 (iv_k (x := 97) (k := 97) rfl) iz71 (by decide)
                    refine lv_aload_n hx hb dX11_word_84 rfl (lv_at hl 2 rfl) ?_
                    refine t_getfd C h tf3 hu0 (by decide) wf_60 (v := .ref tq) k6 fl_X11_9 dX11_word_85 ?_
                    refine lv_iload_n hx hb dX11_word_88 rfl (lv_at hl 0 rfl) ?_
                    refine e_bald C h tf3 htq (by decide) wf_61 k7 (iv_in i63 (by decide)) dX11_word_89 (fun z83 ez83 iz83 => ?_)
                    have mz83 := congrArg Int32.toInt ez83
                    have hz83 := hB ((rn 32 32 B ln.toInt.toNat aa.toInt.toNat) + 2) (by omega)
                    have sz83 := sg_c hz83.2
                    have qz83 : z83.toInt = sg (B ((rn 32 32 B ln.toInt.toNat aa.toInt.toNat) + 2)) := by rw [mz83, ← hz83.1]; exact congrArg (fun z_ => (rt z_).toInt) (by omega)
                    refine lv_bipush (v := 122) hx hb dX11_word_90 (by decide) ?_
                    refine lv_icmp_gt (tgt := 97) hx hb dX11_word_92 (by decide) (fun c84 => ?_) (fun c84 => ?_)
                    · have c85 : 122 < z83.toInt := Int32.lt_iff_toInt_lt.mp c84
                      have i86 : iv z83 123 127 := iv_Lr c85 (iv_k (x := 122) (k := 122) rfl) iz83 (by decide)
                      refine lv_aload_n hx hb dX11_word_97 rfl (lv_at hl 2 rfl) ?_
                      refine lv_iload_n hx hb dX11_word_98 rfl (lv_at hl 0 rfl) ?_
                      refine t_put C h tf3 of3 hu0 (by decide) (by decide) (by decide) wf_60 fw_60 (k := 3) rfl flw_X11_90 (Or.inr ⟨_, _, _, rfl, rfl⟩) (v := .int z59) rfl rfl ⟨_, rfl, (iv_w i63 (by decide))⟩ dX11_word_99 (fun f89 H locs h tf89 of89 hq ha_ hn_ hk_ => ?_)
                      have k90 := hk_ 2 _ (by decide) k5
                      have k91 := hk_ 1 _ (by decide) k6
                      have k92 := atp.tg k7 hq htq (by decide)
                      have k94 := ha_
                      refine lv_iconst (v := 1) hx hb dX11_word_102 (by decide) ?_
                      exact u_zret C h hr hQ ⟨by decide, by decide⟩ (⟨⟨by decide, by decide⟩, tf89, of89, (fun _ => ⟨by omega, by omega, by omega, by omega⟩), (fun h_ => absurd h_ (by decide)), ⟨z59, k94, (iv_w i63 (by decide)), (by have n1_ : (1 : Int32).toInt = 1 := rfl; have n0_ : (0 : Int32).toInt = 0 := rfl; omega)⟩⟩) (Nat.le_of_ble_eq_true rfl) (Nat.le_of_ble_eq_true rfl) dX11_word_103
                    · have c87 : z83.toInt ≤ 122 := Int32.le_iff_toInt_le.mp (iv_nlt c84)
                      have i88 : iv z83 (-128) 122 := iv_El c87 iz83 (iv_k (x := 122) (k := 122) rfl) (by decide)
                      refine lv_iconst (v := 0) hx hb dX11_word_95 (by decide) ?_
                      exact u_zret C h hr hQ ⟨by decide, by decide⟩ (⟨⟨by decide, by decide⟩, tf3, of3, (fun h_ => absurd h_ (by decide)), (fun _ => (fun z_ => by obtain ⟨h1_, g0_, g1_, h9_⟩ := z_; omega)), ⟨aa1_f3, kpu0_3f3, ipu0_3f3, (by have n1_ : (1 : Int32).toInt = 1 := rfl; have n0_ : (0 : Int32).toInt = 0 := rfl; omega)⟩⟩) (Nat.le_of_ble_eq_true rfl) (Nat.le_of_ble_eq_true rfl) dX11_word_96
              · exact absurd c53 (by decide)
            · have c49 : z42.toInt ≠ 119 := fun z_ => c46 (Int32.toInt_inj.mp z_)
              refine lv_iconst (v := 0) hx hb dX11_word_47 (by decide) ?_
              exact u_zret C h hr hQ ⟨by decide, by decide⟩ (⟨⟨by decide, by decide⟩, tf3, of3, (fun h_ => absurd h_ (by decide)), (fun _ => (fun z_ => by obtain ⟨h1_, g0_, g1_, h9_⟩ := z_; omega)), ⟨aa1_f3, kpu0_3f3, ipu0_3f3, (by have n1_ : (1 : Int32).toInt = 1 := rfl; have n0_ : (0 : Int32).toInt = 0 := rfl; omega)⟩⟩) (Nat.le_of_ble_eq_true rfl) (Nat.le_of_ble_eq_true rfl) dX11_word_48
      · have c28 : z21.toInt ≠ 115 := fun z_ => c25 (Int32.toInt_inj.mp z_)
        refine lv_iconst (v := 0) hx hb dX11_word_47 (by decide) ?_
        exact u_zret C h hr hQ ⟨by decide, by decide⟩ (⟨⟨by decide, by decide⟩, tf3, of3, (fun h_ => absurd h_ (by decide)), (fun _ => (fun z_ => by obtain ⟨h1_, g0_, g1_, h9_⟩ := z_; omega)), ⟨aa1_f3, kpu0_3f3, ipu0_3f3, (by have n1_ : (1 : Int32).toInt = 1 := rfl; have n0_ : (0 : Int32).toInt = 0 := rfl; omega)⟩⟩) (Nat.le_of_ble_eq_true rfl) (Nat.le_of_ble_eq_true rfl) dX11_word_48
abbrev rm_s_X11_wordX6 : Room := { frames := 4, cells := 0, slots := 0, locals := 85 }
set_option maxRecDepth 100000 in
set_option maxHeartbeats 4000000 in
theorem s_X11_wordX6 (l : Launch) (D : va_G) (G : Nat → Nat) (b0 : Nat) (τ : Nat → Nat) (f : hM) (t : TI G 9 τ f) (u0 : Nat) (hu0 : τ u0 = 60) (ln : Int32) (hln : iv ln 0 200) (k_u0_2 : atp f u0 (fd 2 (.int ln))) (aa : Int32) (haa : iv aa 0 200) (k_u0_3 : atp f u0 (fd 3 (.int aa))) (tq : Nat) (htq : τ tq = 61) (k_u0_1 : atp f u0 (fd 1 (.ref tq))) (rt : Nat → Int32) (hRtq : atp f tq (eqc (.inl (G 0, 200, .inl rt)))) (B : Nat → Int) (hB : ∀ k : Nat, (k : Int) < ln.toInt → (rt k).toInt = sg (B k) ∧ 0 ≤ B k ∧ B k ≤ 255)  : mI l yX11_word cX11_word 4 (.boolean) rm_s_X11_wordX6 D G b0 f [.ref u0, .ref (G (20 + 6))] (fun r f1 => iv r 0 1 ∧ TI G 9 τ f1 ∧ Fr [60, 60004] τ f f1 ∧ (r.toInt ≠ 0 → (mw1 B ln.toInt.toNat (rn 32 32 B ln.toInt.toNat aa.toInt.toNat) 119)) ∧ (r.toInt = 0 → (¬ mw1 B ln.toInt.toNat (rn 32 32 B ln.toInt.toNat aa.toInt.toNat) 119)) ∧ (∃ aa1 : Int32, atp f1 u0 (fd 3 (.int aa1)) ∧ iv aa1 0 200 ∧ (r.toInt ≠ 0 → aa1.toInt = (((rn 32 32 B ln.toInt.toNat aa.toInt.toNat) : Nat) : Int) + 1) ∧ (r.toInt = 0 → aa1.toInt = (((rn 32 32 B ln.toInt.toNat aa.toInt.toNat) : Nat) : Int)))) := by
  refine met2 (own := RX11) (by decide) rfl (Nat.le_of_ble_eq_true rfl) ?_
  intro p e s m args below meth c ls Q hQ C hr hini hl h
  have hl : lv_has ls 4 [(0, .ref u0), (1, .ref (G (20 + 6)))] := hl
  obtain ⟨hx, hb, hml, hown, hts, hE0, hlk⟩ := id C
  have o := Fr.rf [60, 60004] τ f
  refine lv_aload_n hx hb dX11_word_0 rfl (lv_at hl 0 rfl) ?_
  obtain ⟨_, r1⟩ := t_rec t hu0 (by decide) wf_60
  refine k_i (r_V C h hl (As := []) (rest := []) (s_X11_lookX l D G b0 τ f t u0 hu0 ln hln k_u0_2 aa haa k_u0_3 tq htq k_u0_1 rt hRtq B hB) r1 (Cn := RX11) (T := TX11) (N := 32) rfl rfl mk_X11_look w_1557 w_1559 w_40 w_1560 ⟨Nat.le_of_ble_eq_true rfl, Nat.le_of_ble_eq_true rfl⟩ rfl (Nat.le_of_ble_eq_true rfl) ⟨Nat.le_of_ble_eq_true rfl, Nat.le_of_ble_eq_true rfl⟩ rfl dX11_word_1) h (fun r2 f3 H locs p4 h => ?_)
  obtain ⟨ir2, tf3, ogf3, x0r2, ⟨aa1_f3, kpu0_3f3, ipu0_3f3, rpu0_3f3⟩⟩ := p4
  have of3 : Fr [60, 60004] τ f f3 := Fr.tr o ogf3 (by decide) (by decide)
  have k5 := atp.fk k_u0_2 ogf3 hu0 (by decide) (by decide)
  have k6 := atp.fk k_u0_1 ogf3 hu0 (by decide) (by decide)
  have k7 := atp.fr hRtq ogf3 htq (by decide)
  refine lv_istore_n (lv' := [(2, .int r2), (0, .ref u0), (1, .ref (G (20 + 6)))]) hx hb dX11_word_4 rfl hl (by decide) rfl (fun ls hl => ?_)
  refine lv_iconst (v := 0) hx hb dX11_word_5 (by decide) ?_
  refine lv_istore_n (lv' := [(3, .int 0), (2, .int r2), (0, .ref u0), (1, .ref (G (20 + 6)))]) hx hb dX11_word_6 rfl hl (by decide) rfl (fun ls hl => ?_)
  refine lv_iload_n hx hb dX11_word_7 rfl (lv_at hl 0 rfl) ?_
  refine lv_aload_n hx hb dX11_word_8 rfl (lv_at hl 3 rfl) ?_
  have hrv := vk_recv hE0.2.2.2.2.2.2.2.2.2.1 (i := 6) (by decide) h.2.2.1
  refine k_i (r_VK C h hl (As := []) (rest := [.int 0]) (c_length l D G b0 f3 6 (by decide)) hrv mk_J0_length_8abf5 w_1574 w_1252 w_1253 w_1254 ⟨(Nat.le_of_ble_eq_true rfl), (Nat.le_of_ble_eq_true rfl)⟩ rfl (Nat.le_of_ble_eq_true rfl) ⟨(Nat.le_of_ble_eq_true rfl), (Nat.le_of_ble_eq_true rfl)⟩ rfl dX11_word_9) h (fun r8 f9 H locs p10 h => ?_)
  obtain ⟨er8, rfl⟩ := p10
  obtain rfl : (1 : Int32) = r8 := by rw [er8]; decide
  refine lv_icmp_ge (tgt := 55) hx hb dX11_word_12 (by decide) (fun c11 => ?_) (fun c11 => ?_)
  · exact absurd c11 (by decide)
  · refine lv_aload_n hx hb dX11_word_15 rfl (lv_at hl 2 rfl) ?_
    refine t_getfd C h tf3 hu0 (by decide) wf_60 (v := .int aa1_f3) kpu0_3f3 fl_X11_90 dX11_word_16 ?_
    refine lv_iload_n hx hb dX11_word_19 rfl (lv_at hl 0 rfl) ?_
    refine i_addk hx hb dX11_word_20 ipu0_3f3 (k := 0) rfl (lo := 0) (hi := 200) (by decide) (fun z14 ez14 mz14 iz14 => ?_)
    refine lv_aload_n hx hb dX11_word_21 rfl (lv_at hl 2 rfl) ?_
    refine t_getfd C h tf3 hu0 (by decide) wf_60 (v := .int ln) k5 fl_X11_79 dX11_word_22 ?_
    refine lv_icmp_ge (tgt := 47) hx hb dX11_word_25 (by decide) (fun c15 => ?_) (fun c15 => ?_)
    · have c16 : ln.toInt ≤ z14.toInt := Int32.le_iff_toInt_le.mp c15
      refine lv_iconst (v := 0) hx hb dX11_word_47 (by decide) ?_
      exact u_zret C h hr hQ ⟨by decide, by decide⟩ (⟨⟨by decide, by decide⟩, tf3, of3, (fun h_ => absurd h_ (by decide)), (fun _ => (fun z_ => by obtain ⟨h1_, g0_, h9_⟩ := z_; omega)), ⟨aa1_f3, kpu0_3f3, ipu0_3f3, (by have n1_ : (1 : Int32).toInt = 1 := rfl; have n0_ : (0 : Int32).toInt = 0 := rfl; omega)⟩⟩) (Nat.le_of_ble_eq_true rfl) (Nat.le_of_ble_eq_true rfl) dX11_word_48
    · have c17 : z14.toInt < ln.toInt := Int32.lt_iff_toInt_lt.mp (iv_nle c15)
      have i18 : iv z14 0 199 := iv_Ll c17 iz14 hln (by decide)
      have i19 : iv ln 1 200 := iv_Lr c17 iz14 hln (by decide)
      refine lv_aload_n hx hb dX11_word_28 rfl (lv_at hl 2 rfl) ?_
      refine t_getfd C h tf3 hu0 (by decide) wf_60 (v := .ref tq) k6 fl_X11_9 dX11_word_29 ?_
      refine lv_aload_n hx hb dX11_word_32 rfl (lv_at hl 2 rfl) ?_
      refine t_getfd C h tf3 hu0 (by decide) wf_60 (v := .int aa1_f3) kpu0_3f3 fl_X11_90 dX11_word_33 ?_
      refine lv_iload_n hx hb dX11_word_36 rfl (lv_at hl 0 rfl) ?_
      refine i_addk hx hb dX11_word_37 ipu0_3f3 (k := 0) rfl (lo := 0) (hi := 200) (by decide) (fun z20 ez20 mz20 iz20 => ?_)
      refine e_bald C h tf3 htq (by decide) wf_61 k7 (ix_o (by omega)) dX11_word_38 (fun z21 ez21 iz21 => ?_)
      have mz21 := congrArg Int32.toInt ez21
      have hz21 := hB (rn 32 32 B ln.toInt.toNat aa.toInt.toNat) (by omega)
      have sz21 := sg_c hz21.2
      have qz21 : z21.toInt = sg (B (rn 32 32 B ln.toInt.toNat aa.toInt.toNat)) := by rw [mz21, ← hz21.1]; exact congrArg (fun z_ => (rt z_).toInt) (by omega)
      refine lv_aload_n hx hb dX11_word_39 rfl (lv_at hl 3 rfl) ?_
      refine lv_iload_n hx hb dX11_word_40 rfl (lv_at hl 0 rfl) ?_
      have hrv := vk_recv hE0.2.2.2.2.2.2.2.2.2.1 (i := 6) (by decide) h.2.2.1
      refine k_i (r_VK C h hl (As := [.int 0]) (rest := [.int z21]) (c_charAt l D G b0 f3 6 (by decide) 0 (by decide) (by unfold vp_in; decide)) hrv mk_J0_charAt_5068e w_1575 w_473 w_474 w_475 ⟨(Nat.le_of_ble_eq_true rfl), (Nat.le_of_ble_eq_true rfl)⟩ rfl (Nat.le_of_ble_eq_true rfl) ⟨(Nat.le_of_ble_eq_true rfl), (Nat.le_of_ble_eq_true rfl)⟩ rfl dX11_word_41) h (fun r22 f23 H locs p24 h => ?_)
      obtain ⟨er22, rfl⟩ := p24
      obtain rfl : (119 : Int32) = r22 := by rw [er22]; decide
      refine lv_icmp_eq (tgt := 49) hx hb dX11_word_44 (by decide) (fun c25 => ?_) (fun c25 => ?_)
      · have c26 : z21.toInt = 119 := congrArg Int32.toInt c25
        have i27 : iv z21 119 119 := iv_Q c26 iz21 (iv_k (x := 119) (k := 119) rfl) (by decide)
        refine lv_iinc (v := 1) (lv' := [(3, .int 1), (2, .int r2), (0, .ref u0), (1, .ref (G (20 + 6)))]) hx hb dX11_word_49 hl (k := 0) rfl (by decide) (by decide) rfl (fun ls hl => ?_)
        refine lv_goto (tgt := 7) hx hb dX11_word_52 (by decide) ?_
        refine lv_iload_n hx hb dX11_word_7 rfl (lv_at hl 0 rfl) ?_
        refine lv_aload_n hx hb dX11_word_8 rfl (lv_at hl 3 rfl) ?_
        have hrv := vk_recv hE0.2.2.2.2.2.2.2.2.2.1 (i := 6) (by decide) h.2.2.1
        refine k_i (r_VK C h hl (As := []) (rest := [.int 1]) (c_length l D G b0 f3 6 (by decide)) hrv mk_J0_length_8abf5 w_1574 w_1252 w_1253 w_1254 ⟨(Nat.le_of_ble_eq_true rfl), (Nat.le_of_ble_eq_true rfl)⟩ rfl (Nat.le_of_ble_eq_true rfl) ⟨(Nat.le_of_ble_eq_true rfl), (Nat.le_of_ble_eq_true rfl)⟩ rfl dX11_word_9) h (fun r29 f30 H locs p31 h => ?_)
        obtain ⟨er29, rfl⟩ := p31
        obtain rfl : (1 : Int32) = r29 := by rw [er29]; decide
        refine lv_icmp_ge (tgt := 55) hx hb dX11_word_12 (by decide) (fun c32 => ?_) (fun c32 => ?_)
        · refine lv_aload_n hx hb dX11_word_55 rfl (lv_at hl 2 rfl) ?_
          refine t_getfd C h tf3 hu0 (by decide) wf_60 (v := .int aa1_f3) kpu0_3f3 fl_X11_90 dX11_word_56 ?_
          refine lv_aload_n hx hb dX11_word_59 rfl (lv_at hl 3 rfl) ?_
          have hrv := vk_recv hE0.2.2.2.2.2.2.2.2.2.1 (i := 6) (by decide) h.2.2.1
          refine k_i (r_VK C h hl (As := []) (rest := [.int aa1_f3]) (c_length l D G b0 f3 6 (by decide)) hrv mk_J0_length_8abf5 w_1574 w_1252 w_1253 w_1254 ⟨(Nat.le_of_ble_eq_true rfl), (Nat.le_of_ble_eq_true rfl)⟩ rfl (Nat.le_of_ble_eq_true rfl) ⟨(Nat.le_of_ble_eq_true rfl), (Nat.le_of_ble_eq_true rfl)⟩ rfl dX11_word_60) h (fun r35 f36 H locs p37 h => ?_)
          obtain ⟨er35, rfl⟩ := p37
          obtain rfl : (1 : Int32) = r35 := by rw [er35]; decide
          refine i_addk hx hb dX11_word_63 ipu0_3f3 (k := 1) rfl (lo := 1) (hi := 201) (by decide) (fun z38 ez38 mz38 iz38 => ?_)
          refine lv_istore_n (lv' := [(3, .int z38), (2, .int r2), (0, .ref u0), (1, .ref (G (20 + 6)))]) hx hb dX11_word_64 rfl hl (by decide) rfl (fun ls hl => ?_)
          refine lv_iload_n hx hb dX11_word_65 rfl (lv_at hl 0 rfl) ?_
          refine lv_aload_n hx hb dX11_word_66 rfl (lv_at hl 2 rfl) ?_
          refine t_getfd C h tf3 hu0 (by decide) wf_60 (v := .int ln) k5 fl_X11_79 dX11_word_67 ?_
          refine lv_icmp_ge (tgt := 97) hx hb dX11_word_70 (by decide) (fun c39 => ?_) (fun c39 => ?_)
          · have c40 : ln.toInt ≤ z38.toInt := Int32.le_iff_toInt_le.mp c39
            refine lv_aload_n hx hb dX11_word_97 rfl (lv_at hl 2 rfl) ?_
            refine lv_iload_n hx hb dX11_word_98 rfl (lv_at hl 0 rfl) ?_
            refine t_put C h tf3 of3 hu0 (by decide) (by decide) (by decide) wf_60 fw_60 (k := 3) rfl flw_X11_90 (Or.inr ⟨_, _, _, rfl, rfl⟩) (v := .int z38) rfl rfl ⟨_, rfl, (show iv z38 0 200 from by omega)⟩ dX11_word_99 (fun f44 H locs h tf44 of44 hq ha_ hn_ hk_ => ?_)
            have k45 := hk_ 2 _ (by decide) k5
            have k46 := hk_ 1 _ (by decide) k6
            have k47 := atp.tg k7 hq htq (by decide)
            have k49 := ha_
            refine lv_iconst (v := 1) hx hb dX11_word_102 (by decide) ?_
            exact u_zret C h hr hQ ⟨by decide, by decide⟩ (⟨⟨by decide, by decide⟩, tf44, of44, (fun _ => ⟨by omega, by omega, by omega⟩), (fun h_ => absurd h_ (by decide)), ⟨z38, k49, (show iv z38 0 200 from by omega), (by have n1_ : (1 : Int32).toInt = 1 := rfl; have n0_ : (0 : Int32).toInt = 0 := rfl; omega)⟩⟩) (Nat.le_of_ble_eq_true rfl) (Nat.le_of_ble_eq_true rfl) dX11_word_103
          · have c41 : z38.toInt < ln.toInt := Int32.lt_iff_toInt_lt.mp (iv_nle c39)
            have i42 : iv z38 1 199 := iv_Ll c41 iz38 i19 (by decide)
            have i43 : iv ln 2 200 := iv_Lr c41 iz38 i19 (by decide)
            refine lv_aload_n hx hb dX11_word_73 rfl (lv_at hl 2 rfl) ?_
            refine t_getfd C h tf3 hu0 (by decide) wf_60 (v := .ref tq) k6 fl_X11_9 dX11_word_74 ?_
            refine lv_iload_n hx hb dX11_word_77 rfl (lv_at hl 0 rfl) ?_
            refine e_bald C h tf3 htq (by decide) wf_61 k7 (iv_in i42 (by decide)) dX11_word_78 (fun z50 ez50 iz50 => ?_)
            have mz50 := congrArg Int32.toInt ez50
            have hz50 := hB ((rn 32 32 B ln.toInt.toNat aa.toInt.toNat) + 1) (by omega)
            have sz50 := sg_c hz50.2
            have qz50 : z50.toInt = sg (B ((rn 32 32 B ln.toInt.toNat aa.toInt.toNat) + 1)) := by rw [mz50, ← hz50.1]; exact congrArg (fun z_ => (rt z_).toInt) (by omega)
            refine lv_bipush (v := 97) hx hb dX11_word_79 (by decide) ?_
            refine lv_icmp_lt (tgt := 97) hx hb dX11_word_81 (by decide) (fun c51 => ?_) (fun c51 => ?_)
            · have c52 : z50.toInt < 97 := Int32.lt_iff_toInt_lt.mp c51
              have i53 : iv z50 (-128) 96 := iv_Ll c52 iz50 (iv_k (x := 97) (k := 97) rfl) (by decide)
              refine lv_aload_n hx hb dX11_word_97 rfl (lv_at hl 2 rfl) ?_
              refine lv_iload_n hx hb dX11_word_98 rfl (lv_at hl 0 rfl) ?_
              refine t_put C h tf3 of3 hu0 (by decide) (by decide) (by decide) wf_60 fw_60 (k := 3) rfl flw_X11_90 (Or.inr ⟨_, _, _, rfl, rfl⟩) (v := .int z38) rfl rfl ⟨_, rfl, (iv_w i42 (by decide))⟩ dX11_word_99 (fun f56 H locs h tf56 of56 hq ha_ hn_ hk_ => ?_)
              have k57 := hk_ 2 _ (by decide) k5
              have k58 := hk_ 1 _ (by decide) k6
              have k59 := atp.tg k7 hq htq (by decide)
              have k61 := ha_
              refine lv_iconst (v := 1) hx hb dX11_word_102 (by decide) ?_
              exact u_zret C h hr hQ ⟨by decide, by decide⟩ (⟨⟨by decide, by decide⟩, tf56, of56, (fun _ => ⟨by omega, by omega, by omega⟩), (fun h_ => absurd h_ (by decide)), ⟨z38, k61, (iv_w i42 (by decide)), (by have n1_ : (1 : Int32).toInt = 1 := rfl; have n0_ : (0 : Int32).toInt = 0 := rfl; omega)⟩⟩) (Nat.le_of_ble_eq_true rfl) (Nat.le_of_ble_eq_true rfl) dX11_word_103
            · have c54 : 97 ≤ z50.toInt := Int32.le_iff_toInt_le.mp (iv_nlt c51)
              have i55 : iv z50 97 127 := iv_Er c54 (iv_k (x := 97) (k := 97) rfl) iz50 (by decide)
              refine lv_aload_n hx hb dX11_word_84 rfl (lv_at hl 2 rfl) ?_
              refine t_getfd C h tf3 hu0 (by decide) wf_60 (v := .ref tq) k6 fl_X11_9 dX11_word_85 ?_
              refine lv_iload_n hx hb dX11_word_88 rfl (lv_at hl 0 rfl) ?_
              refine e_bald C h tf3 htq (by decide) wf_61 k7 (iv_in i42 (by decide)) dX11_word_89 (fun z62 ez62 iz62 => ?_)
              have mz62 := congrArg Int32.toInt ez62
              have hz62 := hB ((rn 32 32 B ln.toInt.toNat aa.toInt.toNat) + 1) (by omega)
              have sz62 := sg_c hz62.2
              have qz62 : z62.toInt = sg (B ((rn 32 32 B ln.toInt.toNat aa.toInt.toNat) + 1)) := by rw [mz62, ← hz62.1]; exact congrArg (fun z_ => (rt z_).toInt) (by omega)
              refine lv_bipush (v := 122) hx hb dX11_word_90 (by decide) ?_
              refine lv_icmp_gt (tgt := 97) hx hb dX11_word_92 (by decide) (fun c63 => ?_) (fun c63 => ?_)
              · have c64 : 122 < z62.toInt := Int32.lt_iff_toInt_lt.mp c63
                have i65 : iv z62 123 127 := iv_Lr c64 (iv_k (x := 122) (k := 122) rfl) iz62 (by decide)
                refine lv_aload_n hx hb dX11_word_97 rfl (lv_at hl 2 rfl) ?_
                refine lv_iload_n hx hb dX11_word_98 rfl (lv_at hl 0 rfl) ?_
                refine t_put C h tf3 of3 hu0 (by decide) (by decide) (by decide) wf_60 fw_60 (k := 3) rfl flw_X11_90 (Or.inr ⟨_, _, _, rfl, rfl⟩) (v := .int z38) rfl rfl ⟨_, rfl, (iv_w i42 (by decide))⟩ dX11_word_99 (fun f68 H locs h tf68 of68 hq ha_ hn_ hk_ => ?_)
                have k69 := hk_ 2 _ (by decide) k5
                have k70 := hk_ 1 _ (by decide) k6
                have k71 := atp.tg k7 hq htq (by decide)
                have k73 := ha_
                refine lv_iconst (v := 1) hx hb dX11_word_102 (by decide) ?_
                exact u_zret C h hr hQ ⟨by decide, by decide⟩ (⟨⟨by decide, by decide⟩, tf68, of68, (fun _ => ⟨by omega, by omega, by omega⟩), (fun h_ => absurd h_ (by decide)), ⟨z38, k73, (iv_w i42 (by decide)), (by have n1_ : (1 : Int32).toInt = 1 := rfl; have n0_ : (0 : Int32).toInt = 0 := rfl; omega)⟩⟩) (Nat.le_of_ble_eq_true rfl) (Nat.le_of_ble_eq_true rfl) dX11_word_103
              · have c66 : z62.toInt ≤ 122 := Int32.le_iff_toInt_le.mp (iv_nlt c63)
                have i67 : iv z62 (-128) 122 := iv_El c66 iz62 (iv_k (x := 122) (k := 122) rfl) (by decide)
                refine lv_iconst (v := 0) hx hb dX11_word_95 (by decide) ?_
                exact u_zret C h hr hQ ⟨by decide, by decide⟩ (⟨⟨by decide, by decide⟩, tf3, of3, (fun h_ => absurd h_ (by decide)), (fun _ => (fun z_ => by obtain ⟨h1_, g0_, h9_⟩ := z_; omega)), ⟨aa1_f3, kpu0_3f3, ipu0_3f3, (by have n1_ : (1 : Int32).toInt = 1 := rfl; have n0_ : (0 : Int32).toInt = 0 := rfl; omega)⟩⟩) (Nat.le_of_ble_eq_true rfl) (Nat.le_of_ble_eq_true rfl) dX11_word_96
        · exact absurd c32 (by decide)
      · have c28 : z21.toInt ≠ 119 := fun z_ => c25 (Int32.toInt_inj.mp z_)
        refine lv_iconst (v := 0) hx hb dX11_word_47 (by decide) ?_
        exact u_zret C h hr hQ ⟨by decide, by decide⟩ (⟨⟨by decide, by decide⟩, tf3, of3, (fun h_ => absurd h_ (by decide)), (fun _ => (fun z_ => by obtain ⟨h1_, g0_, h9_⟩ := z_; omega)), ⟨aa1_f3, kpu0_3f3, ipu0_3f3, (by have n1_ : (1 : Int32).toInt = 1 := rfl; have n0_ : (0 : Int32).toInt = 0 := rfl; omega)⟩⟩) (Nat.le_of_ble_eq_true rfl) (Nat.le_of_ble_eq_true rfl) dX11_word_48
abbrev rm_s_X11_wordX7 : Room := { frames := 4, cells := 0, slots := 0, locals := 85 }
set_option maxRecDepth 100000 in
set_option maxHeartbeats 4000000 in
theorem s_X11_wordX7 (l : Launch) (D : va_G) (G : Nat → Nat) (b0 : Nat) (τ : Nat → Nat) (f : hM) (t : TI G 9 τ f) (u0 : Nat) (hu0 : τ u0 = 60) (ln : Int32) (hln : iv ln 0 200) (k_u0_2 : atp f u0 (fd 2 (.int ln))) (aa : Int32) (haa : iv aa 0 200) (k_u0_3 : atp f u0 (fd 3 (.int aa))) (tq : Nat) (htq : τ tq = 61) (k_u0_1 : atp f u0 (fd 1 (.ref tq))) (rt : Nat → Int32) (hRtq : atp f tq (eqc (.inl (G 0, 200, .inl rt)))) (B : Nat → Int) (hB : ∀ k : Nat, (k : Int) < ln.toInt → (rt k).toInt = sg (B k) ∧ 0 ≤ B k ∧ B k ≤ 255)  : mI l yX11_word cX11_word 4 (.boolean) rm_s_X11_wordX7 D G b0 f [.ref u0, .ref (G (20 + 7))] (fun r f1 => iv r 0 1 ∧ TI G 9 τ f1 ∧ Fr [60, 60004] τ f f1 ∧ (r.toInt ≠ 0 → (mw2 B ln.toInt.toNat (rn 32 32 B ln.toInt.toNat aa.toInt.toNat) 110 119)) ∧ (r.toInt = 0 → (¬ mw2 B ln.toInt.toNat (rn 32 32 B ln.toInt.toNat aa.toInt.toNat) 110 119)) ∧ (∃ aa1 : Int32, atp f1 u0 (fd 3 (.int aa1)) ∧ iv aa1 0 200 ∧ (r.toInt ≠ 0 → aa1.toInt = (((rn 32 32 B ln.toInt.toNat aa.toInt.toNat) : Nat) : Int) + 2) ∧ (r.toInt = 0 → aa1.toInt = (((rn 32 32 B ln.toInt.toNat aa.toInt.toNat) : Nat) : Int)))) := by
  refine met2 (own := RX11) (by decide) rfl (Nat.le_of_ble_eq_true rfl) ?_
  intro p e s m args below meth c ls Q hQ C hr hini hl h
  have hl : lv_has ls 4 [(0, .ref u0), (1, .ref (G (20 + 7)))] := hl
  obtain ⟨hx, hb, hml, hown, hts, hE0, hlk⟩ := id C
  have o := Fr.rf [60, 60004] τ f
  refine lv_aload_n hx hb dX11_word_0 rfl (lv_at hl 0 rfl) ?_
  obtain ⟨_, r1⟩ := t_rec t hu0 (by decide) wf_60
  refine k_i (r_V C h hl (As := []) (rest := []) (s_X11_lookX l D G b0 τ f t u0 hu0 ln hln k_u0_2 aa haa k_u0_3 tq htq k_u0_1 rt hRtq B hB) r1 (Cn := RX11) (T := TX11) (N := 32) rfl rfl mk_X11_look w_1557 w_1559 w_40 w_1560 ⟨Nat.le_of_ble_eq_true rfl, Nat.le_of_ble_eq_true rfl⟩ rfl (Nat.le_of_ble_eq_true rfl) ⟨Nat.le_of_ble_eq_true rfl, Nat.le_of_ble_eq_true rfl⟩ rfl dX11_word_1) h (fun r2 f3 H locs p4 h => ?_)
  obtain ⟨ir2, tf3, ogf3, x0r2, ⟨aa1_f3, kpu0_3f3, ipu0_3f3, rpu0_3f3⟩⟩ := p4
  have of3 : Fr [60, 60004] τ f f3 := Fr.tr o ogf3 (by decide) (by decide)
  have k5 := atp.fk k_u0_2 ogf3 hu0 (by decide) (by decide)
  have k6 := atp.fk k_u0_1 ogf3 hu0 (by decide) (by decide)
  have k7 := atp.fr hRtq ogf3 htq (by decide)
  refine lv_istore_n (lv' := [(2, .int r2), (0, .ref u0), (1, .ref (G (20 + 7)))]) hx hb dX11_word_4 rfl hl (by decide) rfl (fun ls hl => ?_)
  refine lv_iconst (v := 0) hx hb dX11_word_5 (by decide) ?_
  refine lv_istore_n (lv' := [(3, .int 0), (2, .int r2), (0, .ref u0), (1, .ref (G (20 + 7)))]) hx hb dX11_word_6 rfl hl (by decide) rfl (fun ls hl => ?_)
  refine lv_iload_n hx hb dX11_word_7 rfl (lv_at hl 0 rfl) ?_
  refine lv_aload_n hx hb dX11_word_8 rfl (lv_at hl 3 rfl) ?_
  have hrv := vk_recv hE0.2.2.2.2.2.2.2.2.2.1 (i := 7) (by decide) h.2.2.1
  refine k_i (r_VK C h hl (As := []) (rest := [.int 0]) (c_length l D G b0 f3 7 (by decide)) hrv mk_J0_length_8abf5 w_1574 w_1252 w_1253 w_1254 ⟨(Nat.le_of_ble_eq_true rfl), (Nat.le_of_ble_eq_true rfl)⟩ rfl (Nat.le_of_ble_eq_true rfl) ⟨(Nat.le_of_ble_eq_true rfl), (Nat.le_of_ble_eq_true rfl)⟩ rfl dX11_word_9) h (fun r8 f9 H locs p10 h => ?_)
  obtain ⟨er8, rfl⟩ := p10
  obtain rfl : (2 : Int32) = r8 := by rw [er8]; decide
  refine lv_icmp_ge (tgt := 55) hx hb dX11_word_12 (by decide) (fun c11 => ?_) (fun c11 => ?_)
  · exact absurd c11 (by decide)
  · refine lv_aload_n hx hb dX11_word_15 rfl (lv_at hl 2 rfl) ?_
    refine t_getfd C h tf3 hu0 (by decide) wf_60 (v := .int aa1_f3) kpu0_3f3 fl_X11_90 dX11_word_16 ?_
    refine lv_iload_n hx hb dX11_word_19 rfl (lv_at hl 0 rfl) ?_
    refine i_addk hx hb dX11_word_20 ipu0_3f3 (k := 0) rfl (lo := 0) (hi := 200) (by decide) (fun z14 ez14 mz14 iz14 => ?_)
    refine lv_aload_n hx hb dX11_word_21 rfl (lv_at hl 2 rfl) ?_
    refine t_getfd C h tf3 hu0 (by decide) wf_60 (v := .int ln) k5 fl_X11_79 dX11_word_22 ?_
    refine lv_icmp_ge (tgt := 47) hx hb dX11_word_25 (by decide) (fun c15 => ?_) (fun c15 => ?_)
    · have c16 : ln.toInt ≤ z14.toInt := Int32.le_iff_toInt_le.mp c15
      refine lv_iconst (v := 0) hx hb dX11_word_47 (by decide) ?_
      exact u_zret C h hr hQ ⟨by decide, by decide⟩ (⟨⟨by decide, by decide⟩, tf3, of3, (fun h_ => absurd h_ (by decide)), (fun _ => (fun z_ => by obtain ⟨h1_, g0_, g1_, h9_⟩ := z_; omega)), ⟨aa1_f3, kpu0_3f3, ipu0_3f3, (by have n1_ : (1 : Int32).toInt = 1 := rfl; have n0_ : (0 : Int32).toInt = 0 := rfl; omega)⟩⟩) (Nat.le_of_ble_eq_true rfl) (Nat.le_of_ble_eq_true rfl) dX11_word_48
    · have c17 : z14.toInt < ln.toInt := Int32.lt_iff_toInt_lt.mp (iv_nle c15)
      have i18 : iv z14 0 199 := iv_Ll c17 iz14 hln (by decide)
      have i19 : iv ln 1 200 := iv_Lr c17 iz14 hln (by decide)
      refine lv_aload_n hx hb dX11_word_28 rfl (lv_at hl 2 rfl) ?_
      refine t_getfd C h tf3 hu0 (by decide) wf_60 (v := .ref tq) k6 fl_X11_9 dX11_word_29 ?_
      refine lv_aload_n hx hb dX11_word_32 rfl (lv_at hl 2 rfl) ?_
      refine t_getfd C h tf3 hu0 (by decide) wf_60 (v := .int aa1_f3) kpu0_3f3 fl_X11_90 dX11_word_33 ?_
      refine lv_iload_n hx hb dX11_word_36 rfl (lv_at hl 0 rfl) ?_
      refine i_addk hx hb dX11_word_37 ipu0_3f3 (k := 0) rfl (lo := 0) (hi := 200) (by decide) (fun z20 ez20 mz20 iz20 => ?_)
      refine e_bald C h tf3 htq (by decide) wf_61 k7 (ix_o (by omega)) dX11_word_38 (fun z21 ez21 iz21 => ?_)
      have mz21 := congrArg Int32.toInt ez21
      have hz21 := hB (rn 32 32 B ln.toInt.toNat aa.toInt.toNat) (by omega)
      have sz21 := sg_c hz21.2
      have qz21 : z21.toInt = sg (B (rn 32 32 B ln.toInt.toNat aa.toInt.toNat)) := by rw [mz21, ← hz21.1]; exact congrArg (fun z_ => (rt z_).toInt) (by omega)
      refine lv_aload_n hx hb dX11_word_39 rfl (lv_at hl 3 rfl) ?_
      refine lv_iload_n hx hb dX11_word_40 rfl (lv_at hl 0 rfl) ?_
      have hrv := vk_recv hE0.2.2.2.2.2.2.2.2.2.1 (i := 7) (by decide) h.2.2.1
      refine k_i (r_VK C h hl (As := [.int 0]) (rest := [.int z21]) (c_charAt l D G b0 f3 7 (by decide) 0 (by decide) (by unfold vp_in; decide)) hrv mk_J0_charAt_5068e w_1575 w_473 w_474 w_475 ⟨(Nat.le_of_ble_eq_true rfl), (Nat.le_of_ble_eq_true rfl)⟩ rfl (Nat.le_of_ble_eq_true rfl) ⟨(Nat.le_of_ble_eq_true rfl), (Nat.le_of_ble_eq_true rfl)⟩ rfl dX11_word_41) h (fun r22 f23 H locs p24 h => ?_)
      obtain ⟨er22, rfl⟩ := p24
      obtain rfl : (110 : Int32) = r22 := by rw [er22]; decide
      refine lv_icmp_eq (tgt := 49) hx hb dX11_word_44 (by decide) (fun c25 => ?_) (fun c25 => ?_)
      · have c26 : z21.toInt = 110 := congrArg Int32.toInt c25
        have i27 : iv z21 110 110 := iv_Q c26 iz21 (iv_k (x := 110) (k := 110) rfl) (by decide)
        refine lv_iinc (v := 1) (lv' := [(3, .int 1), (2, .int r2), (0, .ref u0), (1, .ref (G (20 + 7)))]) hx hb dX11_word_49 hl (k := 0) rfl (by decide) (by decide) rfl (fun ls hl => ?_)
        refine lv_goto (tgt := 7) hx hb dX11_word_52 (by decide) ?_
        refine lv_iload_n hx hb dX11_word_7 rfl (lv_at hl 0 rfl) ?_
        refine lv_aload_n hx hb dX11_word_8 rfl (lv_at hl 3 rfl) ?_
        have hrv := vk_recv hE0.2.2.2.2.2.2.2.2.2.1 (i := 7) (by decide) h.2.2.1
        refine k_i (r_VK C h hl (As := []) (rest := [.int 1]) (c_length l D G b0 f3 7 (by decide)) hrv mk_J0_length_8abf5 w_1574 w_1252 w_1253 w_1254 ⟨(Nat.le_of_ble_eq_true rfl), (Nat.le_of_ble_eq_true rfl)⟩ rfl (Nat.le_of_ble_eq_true rfl) ⟨(Nat.le_of_ble_eq_true rfl), (Nat.le_of_ble_eq_true rfl)⟩ rfl dX11_word_9) h (fun r29 f30 H locs p31 h => ?_)
        obtain ⟨er29, rfl⟩ := p31
        obtain rfl : (2 : Int32) = r29 := by rw [er29]; decide
        refine lv_icmp_ge (tgt := 55) hx hb dX11_word_12 (by decide) (fun c32 => ?_) (fun c32 => ?_)
        · exact absurd c32 (by decide)
        · refine lv_aload_n hx hb dX11_word_15 rfl (lv_at hl 2 rfl) ?_
          refine t_getfd C h tf3 hu0 (by decide) wf_60 (v := .int aa1_f3) kpu0_3f3 fl_X11_90 dX11_word_16 ?_
          refine lv_iload_n hx hb dX11_word_19 rfl (lv_at hl 0 rfl) ?_
          refine i_addk hx hb dX11_word_20 ipu0_3f3 (k := 1) rfl (lo := 1) (hi := 201) (by decide) (fun z35 ez35 mz35 iz35 => ?_)
          refine lv_aload_n hx hb dX11_word_21 rfl (lv_at hl 2 rfl) ?_
          refine t_getfd C h tf3 hu0 (by decide) wf_60 (v := .int ln) k5 fl_X11_79 dX11_word_22 ?_
          refine lv_icmp_ge (tgt := 47) hx hb dX11_word_25 (by decide) (fun c36 => ?_) (fun c36 => ?_)
          · have c37 : ln.toInt ≤ z35.toInt := Int32.le_iff_toInt_le.mp c36
            refine lv_iconst (v := 0) hx hb dX11_word_47 (by decide) ?_
            exact u_zret C h hr hQ ⟨by decide, by decide⟩ (⟨⟨by decide, by decide⟩, tf3, of3, (fun h_ => absurd h_ (by decide)), (fun _ => (fun z_ => by obtain ⟨h1_, g0_, g1_, h9_⟩ := z_; omega)), ⟨aa1_f3, kpu0_3f3, ipu0_3f3, (by have n1_ : (1 : Int32).toInt = 1 := rfl; have n0_ : (0 : Int32).toInt = 0 := rfl; omega)⟩⟩) (Nat.le_of_ble_eq_true rfl) (Nat.le_of_ble_eq_true rfl) dX11_word_48
          · have c38 : z35.toInt < ln.toInt := Int32.lt_iff_toInt_lt.mp (iv_nle c36)
            have i39 : iv z35 1 199 := iv_Ll c38 iz35 i19 (by decide)
            have i40 : iv ln 2 200 := iv_Lr c38 iz35 i19 (by decide)
            refine lv_aload_n hx hb dX11_word_28 rfl (lv_at hl 2 rfl) ?_
            refine t_getfd C h tf3 hu0 (by decide) wf_60 (v := .ref tq) k6 fl_X11_9 dX11_word_29 ?_
            refine lv_aload_n hx hb dX11_word_32 rfl (lv_at hl 2 rfl) ?_
            refine t_getfd C h tf3 hu0 (by decide) wf_60 (v := .int aa1_f3) kpu0_3f3 fl_X11_90 dX11_word_33 ?_
            refine lv_iload_n hx hb dX11_word_36 rfl (lv_at hl 0 rfl) ?_
            refine i_addk hx hb dX11_word_37 ipu0_3f3 (k := 1) rfl (lo := 1) (hi := 201) (by decide) (fun z41 ez41 mz41 iz41 => ?_)
            refine e_bald C h tf3 htq (by decide) wf_61 k7 (ix_o (by omega)) dX11_word_38 (fun z42 ez42 iz42 => ?_)
            have mz42 := congrArg Int32.toInt ez42
            have hz42 := hB ((rn 32 32 B ln.toInt.toNat aa.toInt.toNat) + 1) (by omega)
            have sz42 := sg_c hz42.2
            have qz42 : z42.toInt = sg (B ((rn 32 32 B ln.toInt.toNat aa.toInt.toNat) + 1)) := by rw [mz42, ← hz42.1]; exact congrArg (fun z_ => (rt z_).toInt) (by omega)
            refine lv_aload_n hx hb dX11_word_39 rfl (lv_at hl 3 rfl) ?_
            refine lv_iload_n hx hb dX11_word_40 rfl (lv_at hl 0 rfl) ?_
            have hrv := vk_recv hE0.2.2.2.2.2.2.2.2.2.1 (i := 7) (by decide) h.2.2.1
            refine k_i (r_VK C h hl (As := [.int 1]) (rest := [.int z42]) (c_charAt l D G b0 f3 7 (by decide) 1 (by decide) (by unfold vp_in; decide)) hrv mk_J0_charAt_5068e w_1575 w_473 w_474 w_475 ⟨(Nat.le_of_ble_eq_true rfl), (Nat.le_of_ble_eq_true rfl)⟩ rfl (Nat.le_of_ble_eq_true rfl) ⟨(Nat.le_of_ble_eq_true rfl), (Nat.le_of_ble_eq_true rfl)⟩ rfl dX11_word_41) h (fun r43 f44 H locs p45 h => ?_)
            obtain ⟨er43, rfl⟩ := p45
            obtain rfl : (119 : Int32) = r43 := by rw [er43]; decide
            refine lv_icmp_eq (tgt := 49) hx hb dX11_word_44 (by decide) (fun c46 => ?_) (fun c46 => ?_)
            · have c47 : z42.toInt = 119 := congrArg Int32.toInt c46
              have i48 : iv z42 119 119 := iv_Q c47 iz42 (iv_k (x := 119) (k := 119) rfl) (by decide)
              refine lv_iinc (v := 2) (lv' := [(3, .int 2), (2, .int r2), (0, .ref u0), (1, .ref (G (20 + 7)))]) hx hb dX11_word_49 hl (k := 0) rfl (by decide) (by decide) rfl (fun ls hl => ?_)
              refine lv_goto (tgt := 7) hx hb dX11_word_52 (by decide) ?_
              refine lv_iload_n hx hb dX11_word_7 rfl (lv_at hl 0 rfl) ?_
              refine lv_aload_n hx hb dX11_word_8 rfl (lv_at hl 3 rfl) ?_
              have hrv := vk_recv hE0.2.2.2.2.2.2.2.2.2.1 (i := 7) (by decide) h.2.2.1
              refine k_i (r_VK C h hl (As := []) (rest := [.int 2]) (c_length l D G b0 f3 7 (by decide)) hrv mk_J0_length_8abf5 w_1574 w_1252 w_1253 w_1254 ⟨(Nat.le_of_ble_eq_true rfl), (Nat.le_of_ble_eq_true rfl)⟩ rfl (Nat.le_of_ble_eq_true rfl) ⟨(Nat.le_of_ble_eq_true rfl), (Nat.le_of_ble_eq_true rfl)⟩ rfl dX11_word_9) h (fun r50 f51 H locs p52 h => ?_)
              obtain ⟨er50, rfl⟩ := p52
              obtain rfl : (2 : Int32) = r50 := by rw [er50]; decide
              refine lv_icmp_ge (tgt := 55) hx hb dX11_word_12 (by decide) (fun c53 => ?_) (fun c53 => ?_)
              · refine lv_aload_n hx hb dX11_word_55 rfl (lv_at hl 2 rfl) ?_
                refine t_getfd C h tf3 hu0 (by decide) wf_60 (v := .int aa1_f3) kpu0_3f3 fl_X11_90 dX11_word_56 ?_
                refine lv_aload_n hx hb dX11_word_59 rfl (lv_at hl 3 rfl) ?_
                have hrv := vk_recv hE0.2.2.2.2.2.2.2.2.2.1 (i := 7) (by decide) h.2.2.1
                refine k_i (r_VK C h hl (As := []) (rest := [.int aa1_f3]) (c_length l D G b0 f3 7 (by decide)) hrv mk_J0_length_8abf5 w_1574 w_1252 w_1253 w_1254 ⟨(Nat.le_of_ble_eq_true rfl), (Nat.le_of_ble_eq_true rfl)⟩ rfl (Nat.le_of_ble_eq_true rfl) ⟨(Nat.le_of_ble_eq_true rfl), (Nat.le_of_ble_eq_true rfl)⟩ rfl dX11_word_60) h (fun r56 f57 H locs p58 h => ?_)
                obtain ⟨er56, rfl⟩ := p58
                obtain rfl : (2 : Int32) = r56 := by rw [er56]; decide
                refine i_addk hx hb dX11_word_63 ipu0_3f3 (k := 2) rfl (lo := 2) (hi := 202) (by decide) (fun z59 ez59 mz59 iz59 => ?_)
                refine lv_istore_n (lv' := [(3, .int z59), (2, .int r2), (0, .ref u0), (1, .ref (G (20 + 7)))]) hx hb dX11_word_64 rfl hl (by decide) rfl (fun ls hl => ?_)
                refine lv_iload_n hx hb dX11_word_65 rfl (lv_at hl 0 rfl) ?_
                refine lv_aload_n hx hb dX11_word_66 rfl (lv_at hl 2 rfl) ?_
                refine t_getfd C h tf3 hu0 (by decide) wf_60 (v := .int ln) k5 fl_X11_79 dX11_word_67 ?_
                refine lv_icmp_ge (tgt := 97) hx hb dX11_word_70 (by decide) (fun c60 => ?_) (fun c60 => ?_)
                · have c61 : ln.toInt ≤ z59.toInt := Int32.le_iff_toInt_le.mp c60
                  refine lv_aload_n hx hb dX11_word_97 rfl (lv_at hl 2 rfl) ?_
                  refine lv_iload_n hx hb dX11_word_98 rfl (lv_at hl 0 rfl) ?_
                  refine t_put C h tf3 of3 hu0 (by decide) (by decide) (by decide) wf_60 fw_60 (k := 3) rfl flw_X11_90 (Or.inr ⟨_, _, _, rfl, rfl⟩) (v := .int z59) rfl rfl ⟨_, rfl, (show iv z59 0 200 from by omega)⟩ dX11_word_99 (fun f65 H locs h tf65 of65 hq ha_ hn_ hk_ => ?_)
                  have k66 := hk_ 2 _ (by decide) k5
                  have k67 := hk_ 1 _ (by decide) k6
                  have k68 := atp.tg k7 hq htq (by decide)
                  have k70 := ha_
                  refine lv_iconst (v := 1) hx hb dX11_word_102 (by decide) ?_
                  exact u_zret C h hr hQ ⟨by decide, by decide⟩ (⟨⟨by decide, by decide⟩, tf65, of65, (fun _ => ⟨by omega, by omega, by omega, by omega⟩), (fun h_ => absurd h_ (by decide)), ⟨z59, k70, (show iv z59 0 200 from by omega), (by have n1_ : (1 : Int32).toInt = 1 := rfl; have n0_ : (0 : Int32).toInt = 0 := rfl; omega)⟩⟩) (Nat.le_of_ble_eq_true rfl) (Nat.le_of_ble_eq_true rfl) dX11_word_103
                · have c62 : z59.toInt < ln.toInt := Int32.lt_iff_toInt_lt.mp (iv_nle c60)
                  have i63 : iv z59 2 199 := iv_Ll c62 iz59 i40 (by decide)
                  have i64 : iv ln 3 200 := iv_Lr c62 iz59 i40 (by decide)
                  refine lv_aload_n hx hb dX11_word_73 rfl (lv_at hl 2 rfl) ?_
                  refine t_getfd C h tf3 hu0 (by decide) wf_60 (v := .ref tq) k6 fl_X11_9 dX11_word_74 ?_
                  refine lv_iload_n hx hb dX11_word_77 rfl (lv_at hl 0 rfl) ?_
                  refine e_bald C h tf3 htq (by decide) wf_61 k7 (iv_in i63 (by decide)) dX11_word_78 (fun z71 ez71 iz71 => ?_)
                  have mz71 := congrArg Int32.toInt ez71
                  have hz71 := hB ((rn 32 32 B ln.toInt.toNat aa.toInt.toNat) + 2) (by omega)
                  have sz71 := sg_c hz71.2
                  have qz71 : z71.toInt = sg (B ((rn 32 32 B ln.toInt.toNat aa.toInt.toNat) + 2)) := by rw [mz71, ← hz71.1]; exact congrArg (fun z_ => (rt z_).toInt) (by omega)
                  refine lv_bipush (v := 97) hx hb dX11_word_79 (by decide) ?_
                  refine lv_icmp_lt (tgt := 97) hx hb dX11_word_81 (by decide) (fun c72 => ?_) (fun c72 => ?_)
                  · have c73 : z71.toInt < 97 := Int32.lt_iff_toInt_lt.mp c72
                    have i74 : iv z71 (-128) 96 := iv_Ll c73 iz71 (iv_k (x := 97) (k := 97) rfl) (by decide)
                    refine lv_aload_n hx hb dX11_word_97 rfl (lv_at hl 2 rfl) ?_
                    refine lv_iload_n hx hb dX11_word_98 rfl (lv_at hl 0 rfl) ?_
                    refine t_put C h tf3 of3 hu0 (by decide) (by decide) (by decide) wf_60 fw_60 (k := 3) rfl flw_X11_90 (Or.inr ⟨_, _, _, rfl, rfl⟩) (v := .int z59) rfl rfl ⟨_, rfl, (iv_w i63 (by decide))⟩ dX11_word_99 (fun f77 H locs h tf77 of77 hq ha_ hn_ hk_ => ?_)
                    have k78 := hk_ 2 _ (by decide) k5
                    have k79 := hk_ 1 _ (by decide) k6
                    have k80 := atp.tg k7 hq htq (by decide)
                    have k82 := ha_
                    refine lv_iconst (v := 1) hx hb dX11_word_102 (by decide) ?_
                    exact u_zret C h hr hQ ⟨by decide, by decide⟩ (⟨⟨by decide, by decide⟩, tf77, of77, (fun _ => ⟨by omega, by omega, by omega, by omega⟩), (fun h_ => absurd h_ (by decide)), ⟨z59, k82, (iv_w i63 (by decide)), (by have n1_ : (1 : Int32).toInt = 1 := rfl; have n0_ : (0 : Int32).toInt = 0 := rfl; omega)⟩⟩) (Nat.le_of_ble_eq_true rfl) (Nat.le_of_ble_eq_true rfl) dX11_word_103
                  · have c75 : 97 ≤ z71.toInt := Int32.le_iff_toInt_le.mp (iv_nlt c72)
                    have i76 : iv z71 97 127 := iv_Er c75 (iv_k (x := 97) (k := 97) rfl) iz71 (by decide)
                    refine lv_aload_n hx hb dX11_word_84 rfl (lv_at hl 2 rfl) ?_
                    refine t_getfd C h tf3 hu0 (by decide) wf_60 (v := .ref tq) k6 fl_X11_9 dX11_word_85 ?_
                    refine lv_iload_n hx hb dX11_word_88 rfl (lv_at hl 0 rfl) ?_
                    refine e_bald C h tf3 htq (by decide) wf_61 k7 (iv_in i63 (by decide)) dX11_word_89 (fun z83 ez83 iz83 => ?_)
                    have mz83 := congrArg Int32.toInt ez83
                    have hz83 := hB ((rn 32 32 B ln.toInt.toNat aa.toInt.toNat) + 2) (by omega)
                    have sz83 := sg_c hz83.2
                    have qz83 : z83.toInt = sg (B ((rn 32 32 B ln.toInt.toNat aa.toInt.toNat) + 2)) := by rw [mz83, ← hz83.1]; exact congrArg (fun z_ => (rt z_).toInt) (by omega)
                    refine lv_bipush (v := 122) hx hb dX11_word_90 (by decide) ?_
                    refine lv_icmp_gt (tgt := 97) hx hb dX11_word_92 (by decide) (fun c84 => ?_) (fun c84 => ?_)
                    · have c85 : 122 < z83.toInt := Int32.lt_iff_toInt_lt.mp c84
                      have i86 : iv z83 123 127 := iv_Lr c85 (iv_k (x := 122) (k := 122) rfl) iz83 (by decide)
                      refine lv_aload_n hx hb dX11_word_97 rfl (lv_at hl 2 rfl) ?_
                      refine lv_iload_n hx hb dX11_word_98 rfl (lv_at hl 0 rfl) ?_
                      refine t_put C h tf3 of3 hu0 (by decide) (by decide) (by decide) wf_60 fw_60 (k := 3) rfl flw_X11_90 (Or.inr ⟨_, _, _, rfl, rfl⟩) (v := .int z59) rfl rfl ⟨_, rfl, (iv_w i63 (by decide))⟩ dX11_word_99 (fun f89 H locs h tf89 of89 hq ha_ hn_ hk_ => ?_)
                      have k90 := hk_ 2 _ (by decide) k5
                      have k91 := hk_ 1 _ (by decide) k6
                      have k92 := atp.tg k7 hq htq (by decide)
                      have k94 := ha_
                      refine lv_iconst (v := 1) hx hb dX11_word_102 (by decide) ?_
                      exact u_zret C h hr hQ ⟨by decide, by decide⟩ (⟨⟨by decide, by decide⟩, tf89, of89, (fun _ => ⟨by omega, by omega, by omega, by omega⟩), (fun h_ => absurd h_ (by decide)), ⟨z59, k94, (iv_w i63 (by decide)), (by have n1_ : (1 : Int32).toInt = 1 := rfl; have n0_ : (0 : Int32).toInt = 0 := rfl; omega)⟩⟩) (Nat.le_of_ble_eq_true rfl) (Nat.le_of_ble_eq_true rfl) dX11_word_103
                    · have c87 : z83.toInt ≤ 122 := Int32.le_iff_toInt_le.mp (iv_nlt c84)
                      have i88 : iv z83 (-128) 122 := iv_El c87 iz83 (iv_k (x := 122) (k := 122) rfl) (by decide)
                      refine lv_iconst (v := 0) hx hb dX11_word_95 (by decide) ?_
                      exact u_zret C h hr hQ ⟨by decide, by decide⟩ (⟨⟨by decide, by decide⟩, tf3, of3, (fun h_ => absurd h_ (by decide)), (fun _ => (fun z_ => by obtain ⟨h1_, g0_, g1_, h9_⟩ := z_; omega)), ⟨aa1_f3, kpu0_3f3, ipu0_3f3, (by have n1_ : (1 : Int32).toInt = 1 := rfl; have n0_ : (0 : Int32).toInt = 0 := rfl; omega)⟩⟩) (Nat.le_of_ble_eq_true rfl) (Nat.le_of_ble_eq_true rfl) dX11_word_96
              · exact absurd c53 (by decide)
            · have c49 : z42.toInt ≠ 119 := fun z_ => c46 (Int32.toInt_inj.mp z_)
              refine lv_iconst (v := 0) hx hb dX11_word_47 (by decide) ?_
              exact u_zret C h hr hQ ⟨by decide, by decide⟩ (⟨⟨by decide, by decide⟩, tf3, of3, (fun h_ => absurd h_ (by decide)), (fun _ => (fun z_ => by obtain ⟨h1_, g0_, g1_, h9_⟩ := z_; omega)), ⟨aa1_f3, kpu0_3f3, ipu0_3f3, (by have n1_ : (1 : Int32).toInt = 1 := rfl; have n0_ : (0 : Int32).toInt = 0 := rfl; omega)⟩⟩) (Nat.le_of_ble_eq_true rfl) (Nat.le_of_ble_eq_true rfl) dX11_word_48
      · have c28 : z21.toInt ≠ 110 := fun z_ => c25 (Int32.toInt_inj.mp z_)
        refine lv_iconst (v := 0) hx hb dX11_word_47 (by decide) ?_
        exact u_zret C h hr hQ ⟨by decide, by decide⟩ (⟨⟨by decide, by decide⟩, tf3, of3, (fun h_ => absurd h_ (by decide)), (fun _ => (fun z_ => by obtain ⟨h1_, g0_, g1_, h9_⟩ := z_; omega)), ⟨aa1_f3, kpu0_3f3, ipu0_3f3, (by have n1_ : (1 : Int32).toInt = 1 := rfl; have n0_ : (0 : Int32).toInt = 0 := rfl; omega)⟩⟩) (Nat.le_of_ble_eq_true rfl) (Nat.le_of_ble_eq_true rfl) dX11_word_48
abbrev rm_s_X11_wordX8 : Room := { frames := 4, cells := 0, slots := 0, locals := 85 }
set_option maxRecDepth 100000 in
set_option maxHeartbeats 4000000 in
theorem s_X11_wordX8 (l : Launch) (D : va_G) (G : Nat → Nat) (b0 : Nat) (τ : Nat → Nat) (f : hM) (t : TI G 9 τ f) (u0 : Nat) (hu0 : τ u0 = 60) (ln : Int32) (hln : iv ln 0 200) (k_u0_2 : atp f u0 (fd 2 (.int ln))) (aa : Int32) (haa : iv aa 0 200) (k_u0_3 : atp f u0 (fd 3 (.int aa))) (tq : Nat) (htq : τ tq = 61) (k_u0_1 : atp f u0 (fd 1 (.ref tq))) (rt : Nat → Int32) (hRtq : atp f tq (eqc (.inl (G 0, 200, .inl rt)))) (B : Nat → Int) (hB : ∀ k : Nat, (k : Int) < ln.toInt → (rt k).toInt = sg (B k) ∧ 0 ≤ B k ∧ B k ≤ 255)  : mI l yX11_word cX11_word 4 (.boolean) rm_s_X11_wordX8 D G b0 f [.ref u0, .ref (G (20 + 8))] (fun r f1 => iv r 0 1 ∧ TI G 9 τ f1 ∧ Fr [60, 60004] τ f f1 ∧ (r.toInt ≠ 0 → (mw4 B ln.toInt.toNat (rn 32 32 B ln.toInt.toNat aa.toInt.toNat))) ∧ (r.toInt = 0 → (¬ mw4 B ln.toInt.toNat (rn 32 32 B ln.toInt.toNat aa.toInt.toNat))) ∧ (∃ aa1 : Int32, atp f1 u0 (fd 3 (.int aa1)) ∧ iv aa1 0 200 ∧ (r.toInt ≠ 0 → aa1.toInt = (((rn 32 32 B ln.toInt.toNat aa.toInt.toNat) : Nat) : Int) + 4) ∧ (r.toInt = 0 → aa1.toInt = (((rn 32 32 B ln.toInt.toNat aa.toInt.toNat) : Nat) : Int)))) := by
  refine met2 (own := RX11) (by decide) rfl (Nat.le_of_ble_eq_true rfl) ?_
  intro p e s m args below meth c ls Q hQ C hr hini hl h
  have hl : lv_has ls 4 [(0, .ref u0), (1, .ref (G (20 + 8)))] := hl
  obtain ⟨hx, hb, hml, hown, hts, hE0, hlk⟩ := id C
  have o := Fr.rf [60, 60004] τ f
  refine lv_aload_n hx hb dX11_word_0 rfl (lv_at hl 0 rfl) ?_
  obtain ⟨_, r1⟩ := t_rec t hu0 (by decide) wf_60
  refine k_i (r_V C h hl (As := []) (rest := []) (s_X11_lookX l D G b0 τ f t u0 hu0 ln hln k_u0_2 aa haa k_u0_3 tq htq k_u0_1 rt hRtq B hB) r1 (Cn := RX11) (T := TX11) (N := 32) rfl rfl mk_X11_look w_1557 w_1559 w_40 w_1560 ⟨Nat.le_of_ble_eq_true rfl, Nat.le_of_ble_eq_true rfl⟩ rfl (Nat.le_of_ble_eq_true rfl) ⟨Nat.le_of_ble_eq_true rfl, Nat.le_of_ble_eq_true rfl⟩ rfl dX11_word_1) h (fun r2 f3 H locs p4 h => ?_)
  obtain ⟨ir2, tf3, ogf3, x0r2, ⟨aa1_f3, kpu0_3f3, ipu0_3f3, rpu0_3f3⟩⟩ := p4
  have of3 : Fr [60, 60004] τ f f3 := Fr.tr o ogf3 (by decide) (by decide)
  have k5 := atp.fk k_u0_2 ogf3 hu0 (by decide) (by decide)
  have k6 := atp.fk k_u0_1 ogf3 hu0 (by decide) (by decide)
  have k7 := atp.fr hRtq ogf3 htq (by decide)
  refine lv_istore_n (lv' := [(2, .int r2), (0, .ref u0), (1, .ref (G (20 + 8)))]) hx hb dX11_word_4 rfl hl (by decide) rfl (fun ls hl => ?_)
  refine lv_iconst (v := 0) hx hb dX11_word_5 (by decide) ?_
  refine lv_istore_n (lv' := [(3, .int 0), (2, .int r2), (0, .ref u0), (1, .ref (G (20 + 8)))]) hx hb dX11_word_6 rfl hl (by decide) rfl (fun ls hl => ?_)
  refine lv_iload_n hx hb dX11_word_7 rfl (lv_at hl 0 rfl) ?_
  refine lv_aload_n hx hb dX11_word_8 rfl (lv_at hl 3 rfl) ?_
  have hrv := vk_recv hE0.2.2.2.2.2.2.2.2.2.1 (i := 8) (by decide) h.2.2.1
  refine k_i (r_VK C h hl (As := []) (rest := [.int 0]) (c_length l D G b0 f3 8 (by decide)) hrv mk_J0_length_8abf5 w_1574 w_1252 w_1253 w_1254 ⟨(Nat.le_of_ble_eq_true rfl), (Nat.le_of_ble_eq_true rfl)⟩ rfl (Nat.le_of_ble_eq_true rfl) ⟨(Nat.le_of_ble_eq_true rfl), (Nat.le_of_ble_eq_true rfl)⟩ rfl dX11_word_9) h (fun r8 f9 H locs p10 h => ?_)
  obtain ⟨er8, rfl⟩ := p10
  obtain rfl : (4 : Int32) = r8 := by rw [er8]; decide
  refine lv_icmp_ge (tgt := 55) hx hb dX11_word_12 (by decide) (fun c11 => ?_) (fun c11 => ?_)
  · exact absurd c11 (by decide)
  · refine lv_aload_n hx hb dX11_word_15 rfl (lv_at hl 2 rfl) ?_
    refine t_getfd C h tf3 hu0 (by decide) wf_60 (v := .int aa1_f3) kpu0_3f3 fl_X11_90 dX11_word_16 ?_
    refine lv_iload_n hx hb dX11_word_19 rfl (lv_at hl 0 rfl) ?_
    refine i_addk hx hb dX11_word_20 ipu0_3f3 (k := 0) rfl (lo := 0) (hi := 200) (by decide) (fun z14 ez14 mz14 iz14 => ?_)
    refine lv_aload_n hx hb dX11_word_21 rfl (lv_at hl 2 rfl) ?_
    refine t_getfd C h tf3 hu0 (by decide) wf_60 (v := .int ln) k5 fl_X11_79 dX11_word_22 ?_
    refine lv_icmp_ge (tgt := 47) hx hb dX11_word_25 (by decide) (fun c15 => ?_) (fun c15 => ?_)
    · have c16 : ln.toInt ≤ z14.toInt := Int32.le_iff_toInt_le.mp c15
      refine lv_iconst (v := 0) hx hb dX11_word_47 (by decide) ?_
      exact u_zret C h hr hQ ⟨by decide, by decide⟩ (⟨⟨by decide, by decide⟩, tf3, of3, (fun h_ => absurd h_ (by decide)), (fun _ => (fun z_ => by obtain ⟨h1_, ⟨g0_, g1_, g2_, g3_⟩, h9_⟩ := z_; omega)), ⟨aa1_f3, kpu0_3f3, ipu0_3f3, (by have n1_ : (1 : Int32).toInt = 1 := rfl; have n0_ : (0 : Int32).toInt = 0 := rfl; omega)⟩⟩) (Nat.le_of_ble_eq_true rfl) (Nat.le_of_ble_eq_true rfl) dX11_word_48
    · have c17 : z14.toInt < ln.toInt := Int32.lt_iff_toInt_lt.mp (iv_nle c15)
      have i18 : iv z14 0 199 := iv_Ll c17 iz14 hln (by decide)
      have i19 : iv ln 1 200 := iv_Lr c17 iz14 hln (by decide)
      refine lv_aload_n hx hb dX11_word_28 rfl (lv_at hl 2 rfl) ?_
      refine t_getfd C h tf3 hu0 (by decide) wf_60 (v := .ref tq) k6 fl_X11_9 dX11_word_29 ?_
      refine lv_aload_n hx hb dX11_word_32 rfl (lv_at hl 2 rfl) ?_
      refine t_getfd C h tf3 hu0 (by decide) wf_60 (v := .int aa1_f3) kpu0_3f3 fl_X11_90 dX11_word_33 ?_
      refine lv_iload_n hx hb dX11_word_36 rfl (lv_at hl 0 rfl) ?_
      refine i_addk hx hb dX11_word_37 ipu0_3f3 (k := 0) rfl (lo := 0) (hi := 200) (by decide) (fun z20 ez20 mz20 iz20 => ?_)
      refine e_bald C h tf3 htq (by decide) wf_61 k7 (ix_o (by omega)) dX11_word_38 (fun z21 ez21 iz21 => ?_)
      have mz21 := congrArg Int32.toInt ez21
      have hz21 := hB (rn 32 32 B ln.toInt.toNat aa.toInt.toNat) (by omega)
      have sz21 := sg_c hz21.2
      have qz21 : z21.toInt = sg (B (rn 32 32 B ln.toInt.toNat aa.toInt.toNat)) := by rw [mz21, ← hz21.1]; exact congrArg (fun z_ => (rt z_).toInt) (by omega)
      refine lv_aload_n hx hb dX11_word_39 rfl (lv_at hl 3 rfl) ?_
      refine lv_iload_n hx hb dX11_word_40 rfl (lv_at hl 0 rfl) ?_
      have hrv := vk_recv hE0.2.2.2.2.2.2.2.2.2.1 (i := 8) (by decide) h.2.2.1
      refine k_i (r_VK C h hl (As := [.int 0]) (rest := [.int z21]) (c_charAt l D G b0 f3 8 (by decide) 0 (by decide) (by unfold vp_in; decide)) hrv mk_J0_charAt_5068e w_1575 w_473 w_474 w_475 ⟨(Nat.le_of_ble_eq_true rfl), (Nat.le_of_ble_eq_true rfl)⟩ rfl (Nat.le_of_ble_eq_true rfl) ⟨(Nat.le_of_ble_eq_true rfl), (Nat.le_of_ble_eq_true rfl)⟩ rfl dX11_word_41) h (fun r22 f23 H locs p24 h => ?_)
      obtain ⟨er22, rfl⟩ := p24
      obtain rfl : (102 : Int32) = r22 := by rw [er22]; decide
      refine lv_icmp_eq (tgt := 49) hx hb dX11_word_44 (by decide) (fun c25 => ?_) (fun c25 => ?_)
      · have c26 : z21.toInt = 102 := congrArg Int32.toInt c25
        have i27 : iv z21 102 102 := iv_Q c26 iz21 (iv_k (x := 102) (k := 102) rfl) (by decide)
        refine lv_iinc (v := 1) (lv' := [(3, .int 1), (2, .int r2), (0, .ref u0), (1, .ref (G (20 + 8)))]) hx hb dX11_word_49 hl (k := 0) rfl (by decide) (by decide) rfl (fun ls hl => ?_)
        refine lv_goto (tgt := 7) hx hb dX11_word_52 (by decide) ?_
        refine lv_iload_n hx hb dX11_word_7 rfl (lv_at hl 0 rfl) ?_
        refine lv_aload_n hx hb dX11_word_8 rfl (lv_at hl 3 rfl) ?_
        have hrv := vk_recv hE0.2.2.2.2.2.2.2.2.2.1 (i := 8) (by decide) h.2.2.1
        refine k_i (r_VK C h hl (As := []) (rest := [.int 1]) (c_length l D G b0 f3 8 (by decide)) hrv mk_J0_length_8abf5 w_1574 w_1252 w_1253 w_1254 ⟨(Nat.le_of_ble_eq_true rfl), (Nat.le_of_ble_eq_true rfl)⟩ rfl (Nat.le_of_ble_eq_true rfl) ⟨(Nat.le_of_ble_eq_true rfl), (Nat.le_of_ble_eq_true rfl)⟩ rfl dX11_word_9) h (fun r29 f30 H locs p31 h => ?_)
        obtain ⟨er29, rfl⟩ := p31
        obtain rfl : (4 : Int32) = r29 := by rw [er29]; decide
        refine lv_icmp_ge (tgt := 55) hx hb dX11_word_12 (by decide) (fun c32 => ?_) (fun c32 => ?_)
        · exact absurd c32 (by decide)
        · refine lv_aload_n hx hb dX11_word_15 rfl (lv_at hl 2 rfl) ?_
          refine t_getfd C h tf3 hu0 (by decide) wf_60 (v := .int aa1_f3) kpu0_3f3 fl_X11_90 dX11_word_16 ?_
          refine lv_iload_n hx hb dX11_word_19 rfl (lv_at hl 0 rfl) ?_
          refine i_addk hx hb dX11_word_20 ipu0_3f3 (k := 1) rfl (lo := 1) (hi := 201) (by decide) (fun z35 ez35 mz35 iz35 => ?_)
          refine lv_aload_n hx hb dX11_word_21 rfl (lv_at hl 2 rfl) ?_
          refine t_getfd C h tf3 hu0 (by decide) wf_60 (v := .int ln) k5 fl_X11_79 dX11_word_22 ?_
          refine lv_icmp_ge (tgt := 47) hx hb dX11_word_25 (by decide) (fun c36 => ?_) (fun c36 => ?_)
          · have c37 : ln.toInt ≤ z35.toInt := Int32.le_iff_toInt_le.mp c36
            refine lv_iconst (v := 0) hx hb dX11_word_47 (by decide) ?_
            exact u_zret C h hr hQ ⟨by decide, by decide⟩ (⟨⟨by decide, by decide⟩, tf3, of3, (fun h_ => absurd h_ (by decide)), (fun _ => (fun z_ => by obtain ⟨h1_, ⟨g0_, g1_, g2_, g3_⟩, h9_⟩ := z_; omega)), ⟨aa1_f3, kpu0_3f3, ipu0_3f3, (by have n1_ : (1 : Int32).toInt = 1 := rfl; have n0_ : (0 : Int32).toInt = 0 := rfl; omega)⟩⟩) (Nat.le_of_ble_eq_true rfl) (Nat.le_of_ble_eq_true rfl) dX11_word_48
          · have c38 : z35.toInt < ln.toInt := Int32.lt_iff_toInt_lt.mp (iv_nle c36)
            have i39 : iv z35 1 199 := iv_Ll c38 iz35 i19 (by decide)
            have i40 : iv ln 2 200 := iv_Lr c38 iz35 i19 (by decide)
            refine lv_aload_n hx hb dX11_word_28 rfl (lv_at hl 2 rfl) ?_
            refine t_getfd C h tf3 hu0 (by decide) wf_60 (v := .ref tq) k6 fl_X11_9 dX11_word_29 ?_
            refine lv_aload_n hx hb dX11_word_32 rfl (lv_at hl 2 rfl) ?_
            refine t_getfd C h tf3 hu0 (by decide) wf_60 (v := .int aa1_f3) kpu0_3f3 fl_X11_90 dX11_word_33 ?_
            refine lv_iload_n hx hb dX11_word_36 rfl (lv_at hl 0 rfl) ?_
            refine i_addk hx hb dX11_word_37 ipu0_3f3 (k := 1) rfl (lo := 1) (hi := 201) (by decide) (fun z41 ez41 mz41 iz41 => ?_)
            refine e_bald C h tf3 htq (by decide) wf_61 k7 (ix_o (by omega)) dX11_word_38 (fun z42 ez42 iz42 => ?_)
            have mz42 := congrArg Int32.toInt ez42
            have hz42 := hB ((rn 32 32 B ln.toInt.toNat aa.toInt.toNat) + 1) (by omega)
            have sz42 := sg_c hz42.2
            have qz42 : z42.toInt = sg (B ((rn 32 32 B ln.toInt.toNat aa.toInt.toNat) + 1)) := by rw [mz42, ← hz42.1]; exact congrArg (fun z_ => (rt z_).toInt) (by omega)
            refine lv_aload_n hx hb dX11_word_39 rfl (lv_at hl 3 rfl) ?_
            refine lv_iload_n hx hb dX11_word_40 rfl (lv_at hl 0 rfl) ?_
            have hrv := vk_recv hE0.2.2.2.2.2.2.2.2.2.1 (i := 8) (by decide) h.2.2.1
            refine k_i (r_VK C h hl (As := [.int 1]) (rest := [.int z42]) (c_charAt l D G b0 f3 8 (by decide) 1 (by decide) (by unfold vp_in; decide)) hrv mk_J0_charAt_5068e w_1575 w_473 w_474 w_475 ⟨(Nat.le_of_ble_eq_true rfl), (Nat.le_of_ble_eq_true rfl)⟩ rfl (Nat.le_of_ble_eq_true rfl) ⟨(Nat.le_of_ble_eq_true rfl), (Nat.le_of_ble_eq_true rfl)⟩ rfl dX11_word_41) h (fun r43 f44 H locs p45 h => ?_)
            obtain ⟨er43, rfl⟩ := p45
            obtain rfl : (114 : Int32) = r43 := by rw [er43]; decide
            refine lv_icmp_eq (tgt := 49) hx hb dX11_word_44 (by decide) (fun c46 => ?_) (fun c46 => ?_)
            · have c47 : z42.toInt = 114 := congrArg Int32.toInt c46
              have i48 : iv z42 114 114 := iv_Q c47 iz42 (iv_k (x := 114) (k := 114) rfl) (by decide)
              refine lv_iinc (v := 2) (lv' := [(3, .int 2), (2, .int r2), (0, .ref u0), (1, .ref (G (20 + 8)))]) hx hb dX11_word_49 hl (k := 0) rfl (by decide) (by decide) rfl (fun ls hl => ?_)
              refine lv_goto (tgt := 7) hx hb dX11_word_52 (by decide) ?_
              refine lv_iload_n hx hb dX11_word_7 rfl (lv_at hl 0 rfl) ?_
              refine lv_aload_n hx hb dX11_word_8 rfl (lv_at hl 3 rfl) ?_
              have hrv := vk_recv hE0.2.2.2.2.2.2.2.2.2.1 (i := 8) (by decide) h.2.2.1
              refine k_i (r_VK C h hl (As := []) (rest := [.int 2]) (c_length l D G b0 f3 8 (by decide)) hrv mk_J0_length_8abf5 w_1574 w_1252 w_1253 w_1254 ⟨(Nat.le_of_ble_eq_true rfl), (Nat.le_of_ble_eq_true rfl)⟩ rfl (Nat.le_of_ble_eq_true rfl) ⟨(Nat.le_of_ble_eq_true rfl), (Nat.le_of_ble_eq_true rfl)⟩ rfl dX11_word_9) h (fun r50 f51 H locs p52 h => ?_)
              obtain ⟨er50, rfl⟩ := p52
              obtain rfl : (4 : Int32) = r50 := by rw [er50]; decide
              refine lv_icmp_ge (tgt := 55) hx hb dX11_word_12 (by decide) (fun c53 => ?_) (fun c53 => ?_)
              · exact absurd c53 (by decide)
              · refine lv_aload_n hx hb dX11_word_15 rfl (lv_at hl 2 rfl) ?_
                refine t_getfd C h tf3 hu0 (by decide) wf_60 (v := .int aa1_f3) kpu0_3f3 fl_X11_90 dX11_word_16 ?_
                refine lv_iload_n hx hb dX11_word_19 rfl (lv_at hl 0 rfl) ?_
                refine i_addk hx hb dX11_word_20 ipu0_3f3 (k := 2) rfl (lo := 2) (hi := 202) (by decide) (fun z56 ez56 mz56 iz56 => ?_)
                refine lv_aload_n hx hb dX11_word_21 rfl (lv_at hl 2 rfl) ?_
                refine t_getfd C h tf3 hu0 (by decide) wf_60 (v := .int ln) k5 fl_X11_79 dX11_word_22 ?_
                refine lv_icmp_ge (tgt := 47) hx hb dX11_word_25 (by decide) (fun c57 => ?_) (fun c57 => ?_)
                · have c58 : ln.toInt ≤ z56.toInt := Int32.le_iff_toInt_le.mp c57
                  refine lv_iconst (v := 0) hx hb dX11_word_47 (by decide) ?_
                  exact u_zret C h hr hQ ⟨by decide, by decide⟩ (⟨⟨by decide, by decide⟩, tf3, of3, (fun h_ => absurd h_ (by decide)), (fun _ => (fun z_ => by obtain ⟨h1_, ⟨g0_, g1_, g2_, g3_⟩, h9_⟩ := z_; omega)), ⟨aa1_f3, kpu0_3f3, ipu0_3f3, (by have n1_ : (1 : Int32).toInt = 1 := rfl; have n0_ : (0 : Int32).toInt = 0 := rfl; omega)⟩⟩) (Nat.le_of_ble_eq_true rfl) (Nat.le_of_ble_eq_true rfl) dX11_word_48
                · have c59 : z56.toInt < ln.toInt := Int32.lt_iff_toInt_lt.mp (iv_nle c57)
                  have i60 : iv z56 2 199 := iv_Ll c59 iz56 i40 (by decide)
                  have i61 : iv ln 3 200 := iv_Lr c59 iz56 i40 (by decide)
                  refine lv_aload_n hx hb dX11_word_28 rfl (lv_at hl 2 rfl) ?_
                  refine t_getfd C h tf3 hu0 (by decide) wf_60 (v := .ref tq) k6 fl_X11_9 dX11_word_29 ?_
                  refine lv_aload_n hx hb dX11_word_32 rfl (lv_at hl 2 rfl) ?_
                  refine t_getfd C h tf3 hu0 (by decide) wf_60 (v := .int aa1_f3) kpu0_3f3 fl_X11_90 dX11_word_33 ?_
                  refine lv_iload_n hx hb dX11_word_36 rfl (lv_at hl 0 rfl) ?_
                  refine i_addk hx hb dX11_word_37 ipu0_3f3 (k := 2) rfl (lo := 2) (hi := 202) (by decide) (fun z62 ez62 mz62 iz62 => ?_)
                  refine e_bald C h tf3 htq (by decide) wf_61 k7 (ix_o (by omega)) dX11_word_38 (fun z63 ez63 iz63 => ?_)
                  have mz63 := congrArg Int32.toInt ez63
                  have hz63 := hB ((rn 32 32 B ln.toInt.toNat aa.toInt.toNat) + 2) (by omega)
                  have sz63 := sg_c hz63.2
                  have qz63 : z63.toInt = sg (B ((rn 32 32 B ln.toInt.toNat aa.toInt.toNat) + 2)) := by rw [mz63, ← hz63.1]; exact congrArg (fun z_ => (rt z_).toInt) (by omega)
                  refine lv_aload_n hx hb dX11_word_39 rfl (lv_at hl 3 rfl) ?_
                  refine lv_iload_n hx hb dX11_word_40 rfl (lv_at hl 0 rfl) ?_
                  have hrv := vk_recv hE0.2.2.2.2.2.2.2.2.2.1 (i := 8) (by decide) h.2.2.1
                  refine k_i (r_VK C h hl (As := [.int 2]) (rest := [.int z63]) (c_charAt l D G b0 f3 8 (by decide) 2 (by decide) (by unfold vp_in; decide)) hrv mk_J0_charAt_5068e w_1575 w_473 w_474 w_475 ⟨(Nat.le_of_ble_eq_true rfl), (Nat.le_of_ble_eq_true rfl)⟩ rfl (Nat.le_of_ble_eq_true rfl) ⟨(Nat.le_of_ble_eq_true rfl), (Nat.le_of_ble_eq_true rfl)⟩ rfl dX11_word_41) h (fun r64 f65 H locs p66 h => ?_)
                  obtain ⟨er64, rfl⟩ := p66
                  obtain rfl : (111 : Int32) = r64 := by rw [er64]; decide
                  refine lv_icmp_eq (tgt := 49) hx hb dX11_word_44 (by decide) (fun c67 => ?_) (fun c67 => ?_)
                  · have c68 : z63.toInt = 111 := congrArg Int32.toInt c67
                    have i69 : iv z63 111 111 := iv_Q c68 iz63 (iv_k (x := 111) (k := 111) rfl) (by decide)
                    refine lv_iinc (v := 3) (lv' := [(3, .int 3), (2, .int r2), (0, .ref u0), (1, .ref (G (20 + 8)))]) hx hb dX11_word_49 hl (k := 0) rfl (by decide) (by decide) rfl (fun ls hl => ?_)
                    refine lv_goto (tgt := 7) hx hb dX11_word_52 (by decide) ?_
                    refine lv_iload_n hx hb dX11_word_7 rfl (lv_at hl 0 rfl) ?_
                    refine lv_aload_n hx hb dX11_word_8 rfl (lv_at hl 3 rfl) ?_
                    have hrv := vk_recv hE0.2.2.2.2.2.2.2.2.2.1 (i := 8) (by decide) h.2.2.1
                    refine k_i (r_VK C h hl (As := []) (rest := [.int 3]) (c_length l D G b0 f3 8 (by decide)) hrv mk_J0_length_8abf5 w_1574 w_1252 w_1253 w_1254 ⟨(Nat.le_of_ble_eq_true rfl), (Nat.le_of_ble_eq_true rfl)⟩ rfl (Nat.le_of_ble_eq_true rfl) ⟨(Nat.le_of_ble_eq_true rfl), (Nat.le_of_ble_eq_true rfl)⟩ rfl dX11_word_9) h (fun r71 f72 H locs p73 h => ?_)
                    obtain ⟨er71, rfl⟩ := p73
                    obtain rfl : (4 : Int32) = r71 := by rw [er71]; decide
                    refine lv_icmp_ge (tgt := 55) hx hb dX11_word_12 (by decide) (fun c74 => ?_) (fun c74 => ?_)
                    · exact absurd c74 (by decide)
                    · refine lv_aload_n hx hb dX11_word_15 rfl (lv_at hl 2 rfl) ?_
                      refine t_getfd C h tf3 hu0 (by decide) wf_60 (v := .int aa1_f3) kpu0_3f3 fl_X11_90 dX11_word_16 ?_
                      refine lv_iload_n hx hb dX11_word_19 rfl (lv_at hl 0 rfl) ?_
                      refine i_addk hx hb dX11_word_20 ipu0_3f3 (k := 3) rfl (lo := 3) (hi := 203) (by decide) (fun z77 ez77 mz77 iz77 => ?_)
                      refine lv_aload_n hx hb dX11_word_21 rfl (lv_at hl 2 rfl) ?_
                      refine t_getfd C h tf3 hu0 (by decide) wf_60 (v := .int ln) k5 fl_X11_79 dX11_word_22 ?_
                      refine lv_icmp_ge (tgt := 47) hx hb dX11_word_25 (by decide) (fun c78 => ?_) (fun c78 => ?_)
                      · have c79 : ln.toInt ≤ z77.toInt := Int32.le_iff_toInt_le.mp c78
                        refine lv_iconst (v := 0) hx hb dX11_word_47 (by decide) ?_
                        exact u_zret C h hr hQ ⟨by decide, by decide⟩ (⟨⟨by decide, by decide⟩, tf3, of3, (fun h_ => absurd h_ (by decide)), (fun _ => (fun z_ => by obtain ⟨h1_, ⟨g0_, g1_, g2_, g3_⟩, h9_⟩ := z_; omega)), ⟨aa1_f3, kpu0_3f3, ipu0_3f3, (by have n1_ : (1 : Int32).toInt = 1 := rfl; have n0_ : (0 : Int32).toInt = 0 := rfl; omega)⟩⟩) (Nat.le_of_ble_eq_true rfl) (Nat.le_of_ble_eq_true rfl) dX11_word_48
                      · have c80 : z77.toInt < ln.toInt := Int32.lt_iff_toInt_lt.mp (iv_nle c78)
                        have i81 : iv z77 3 199 := iv_Ll c80 iz77 i61 (by decide)
                        have i82 : iv ln 4 200 := iv_Lr c80 iz77 i61 (by decide)
                        refine lv_aload_n hx hb dX11_word_28 rfl (lv_at hl 2 rfl) ?_
                        refine t_getfd C h tf3 hu0 (by decide) wf_60 (v := .ref tq) k6 fl_X11_9 dX11_word_29 ?_
                        refine lv_aload_n hx hb dX11_word_32 rfl (lv_at hl 2 rfl) ?_
                        refine t_getfd C h tf3 hu0 (by decide) wf_60 (v := .int aa1_f3) kpu0_3f3 fl_X11_90 dX11_word_33 ?_
                        refine lv_iload_n hx hb dX11_word_36 rfl (lv_at hl 0 rfl) ?_
                        refine i_addk hx hb dX11_word_37 ipu0_3f3 (k := 3) rfl (lo := 3) (hi := 203) (by decide) (fun z83 ez83 mz83 iz83 => ?_)
                        refine e_bald C h tf3 htq (by decide) wf_61 k7 (ix_o (by omega)) dX11_word_38 (fun z84 ez84 iz84 => ?_)
                        have mz84 := congrArg Int32.toInt ez84
                        have hz84 := hB ((rn 32 32 B ln.toInt.toNat aa.toInt.toNat) + 3) (by omega)
                        have sz84 := sg_c hz84.2
                        have qz84 : z84.toInt = sg (B ((rn 32 32 B ln.toInt.toNat aa.toInt.toNat) + 3)) := by rw [mz84, ← hz84.1]; exact congrArg (fun z_ => (rt z_).toInt) (by omega)
                        refine lv_aload_n hx hb dX11_word_39 rfl (lv_at hl 3 rfl) ?_
                        refine lv_iload_n hx hb dX11_word_40 rfl (lv_at hl 0 rfl) ?_
                        have hrv := vk_recv hE0.2.2.2.2.2.2.2.2.2.1 (i := 8) (by decide) h.2.2.1
                        refine k_i (r_VK C h hl (As := [.int 3]) (rest := [.int z84]) (c_charAt l D G b0 f3 8 (by decide) 3 (by decide) (by unfold vp_in; decide)) hrv mk_J0_charAt_5068e w_1575 w_473 w_474 w_475 ⟨(Nat.le_of_ble_eq_true rfl), (Nat.le_of_ble_eq_true rfl)⟩ rfl (Nat.le_of_ble_eq_true rfl) ⟨(Nat.le_of_ble_eq_true rfl), (Nat.le_of_ble_eq_true rfl)⟩ rfl dX11_word_41) h (fun r85 f86 H locs p87 h => ?_)
                        obtain ⟨er85, rfl⟩ := p87
                        obtain rfl : (109 : Int32) = r85 := by rw [er85]; decide
                        refine lv_icmp_eq (tgt := 49) hx hb dX11_word_44 (by decide) (fun c88 => ?_) (fun c88 => ?_)
                        · have c89 : z84.toInt = 109 := congrArg Int32.toInt c88
                          have i90 : iv z84 109 109 := iv_Q c89 iz84 (iv_k (x := 109) (k := 109) rfl) (by decide)
                          refine lv_iinc (v := 4) (lv' := [(3, .int 4), (2, .int r2), (0, .ref u0), (1, .ref (G (20 + 8)))]) hx hb dX11_word_49 hl (k := 0) rfl (by decide) (by decide) rfl (fun ls hl => ?_)
                          refine lv_goto (tgt := 7) hx hb dX11_word_52 (by decide) ?_
                          refine lv_iload_n hx hb dX11_word_7 rfl (lv_at hl 0 rfl) ?_
                          refine lv_aload_n hx hb dX11_word_8 rfl (lv_at hl 3 rfl) ?_
                          have hrv := vk_recv hE0.2.2.2.2.2.2.2.2.2.1 (i := 8) (by decide) h.2.2.1
                          refine k_i (r_VK C h hl (As := []) (rest := [.int 4]) (c_length l D G b0 f3 8 (by decide)) hrv mk_J0_length_8abf5 w_1574 w_1252 w_1253 w_1254 ⟨(Nat.le_of_ble_eq_true rfl), (Nat.le_of_ble_eq_true rfl)⟩ rfl (Nat.le_of_ble_eq_true rfl) ⟨(Nat.le_of_ble_eq_true rfl), (Nat.le_of_ble_eq_true rfl)⟩ rfl dX11_word_9) h (fun r92 f93 H locs p94 h => ?_)
                          obtain ⟨er92, rfl⟩ := p94
                          obtain rfl : (4 : Int32) = r92 := by rw [er92]; decide
                          refine lv_icmp_ge (tgt := 55) hx hb dX11_word_12 (by decide) (fun c95 => ?_) (fun c95 => ?_)
                          · refine lv_aload_n hx hb dX11_word_55 rfl (lv_at hl 2 rfl) ?_
                            refine t_getfd C h tf3 hu0 (by decide) wf_60 (v := .int aa1_f3) kpu0_3f3 fl_X11_90 dX11_word_56 ?_
                            refine lv_aload_n hx hb dX11_word_59 rfl (lv_at hl 3 rfl) ?_
                            have hrv := vk_recv hE0.2.2.2.2.2.2.2.2.2.1 (i := 8) (by decide) h.2.2.1
                            refine k_i (r_VK C h hl (As := []) (rest := [.int aa1_f3]) (c_length l D G b0 f3 8 (by decide)) hrv mk_J0_length_8abf5 w_1574 w_1252 w_1253 w_1254 ⟨(Nat.le_of_ble_eq_true rfl), (Nat.le_of_ble_eq_true rfl)⟩ rfl (Nat.le_of_ble_eq_true rfl) ⟨(Nat.le_of_ble_eq_true rfl), (Nat.le_of_ble_eq_true rfl)⟩ rfl dX11_word_60) h (fun r98 f99 H locs p100 h => ?_)
                            obtain ⟨er98, rfl⟩ := p100
                            obtain rfl : (4 : Int32) = r98 := by rw [er98]; decide
                            refine i_addk hx hb dX11_word_63 ipu0_3f3 (k := 4) rfl (lo := 4) (hi := 204) (by decide) (fun z101 ez101 mz101 iz101 => ?_)
                            refine lv_istore_n (lv' := [(3, .int z101), (2, .int r2), (0, .ref u0), (1, .ref (G (20 + 8)))]) hx hb dX11_word_64 rfl hl (by decide) rfl (fun ls hl => ?_)
                            refine lv_iload_n hx hb dX11_word_65 rfl (lv_at hl 0 rfl) ?_
                            refine lv_aload_n hx hb dX11_word_66 rfl (lv_at hl 2 rfl) ?_
                            refine t_getfd C h tf3 hu0 (by decide) wf_60 (v := .int ln) k5 fl_X11_79 dX11_word_67 ?_
                            refine lv_icmp_ge (tgt := 97) hx hb dX11_word_70 (by decide) (fun c102 => ?_) (fun c102 => ?_)
                            · have c103 : ln.toInt ≤ z101.toInt := Int32.le_iff_toInt_le.mp c102
                              refine lv_aload_n hx hb dX11_word_97 rfl (lv_at hl 2 rfl) ?_
                              refine lv_iload_n hx hb dX11_word_98 rfl (lv_at hl 0 rfl) ?_
                              refine t_put C h tf3 of3 hu0 (by decide) (by decide) (by decide) wf_60 fw_60 (k := 3) rfl flw_X11_90 (Or.inr ⟨_, _, _, rfl, rfl⟩) (v := .int z101) rfl rfl ⟨_, rfl, (show iv z101 0 200 from by omega)⟩ dX11_word_99 (fun f107 H locs h tf107 of107 hq ha_ hn_ hk_ => ?_)
                              have k108 := hk_ 2 _ (by decide) k5
                              have k109 := hk_ 1 _ (by decide) k6
                              have k110 := atp.tg k7 hq htq (by decide)
                              have k112 := ha_
                              refine lv_iconst (v := 1) hx hb dX11_word_102 (by decide) ?_
                              exact u_zret C h hr hQ ⟨by decide, by decide⟩ (⟨⟨by decide, by decide⟩, tf107, of107, (fun _ => ⟨by omega, ⟨by omega, by omega, by omega, by omega⟩, by omega⟩), (fun h_ => absurd h_ (by decide)), ⟨z101, k112, (show iv z101 0 200 from by omega), (by have n1_ : (1 : Int32).toInt = 1 := rfl; have n0_ : (0 : Int32).toInt = 0 := rfl; omega)⟩⟩) (Nat.le_of_ble_eq_true rfl) (Nat.le_of_ble_eq_true rfl) dX11_word_103
                            · have c104 : z101.toInt < ln.toInt := Int32.lt_iff_toInt_lt.mp (iv_nle c102)
                              have i105 : iv z101 4 199 := iv_Ll c104 iz101 i82 (by decide)
                              have i106 : iv ln 5 200 := iv_Lr c104 iz101 i82 (by decide)
                              refine lv_aload_n hx hb dX11_word_73 rfl (lv_at hl 2 rfl) ?_
                              refine t_getfd C h tf3 hu0 (by decide) wf_60 (v := .ref tq) k6 fl_X11_9 dX11_word_74 ?_
                              refine lv_iload_n hx hb dX11_word_77 rfl (lv_at hl 0 rfl) ?_
                              refine e_bald C h tf3 htq (by decide) wf_61 k7 (iv_in i105 (by decide)) dX11_word_78 (fun z113 ez113 iz113 => ?_)
                              have mz113 := congrArg Int32.toInt ez113
                              have hz113 := hB ((rn 32 32 B ln.toInt.toNat aa.toInt.toNat) + 4) (by omega)
                              have sz113 := sg_c hz113.2
                              have qz113 : z113.toInt = sg (B ((rn 32 32 B ln.toInt.toNat aa.toInt.toNat) + 4)) := by rw [mz113, ← hz113.1]; exact congrArg (fun z_ => (rt z_).toInt) (by omega)
                              refine lv_bipush (v := 97) hx hb dX11_word_79 (by decide) ?_
                              refine lv_icmp_lt (tgt := 97) hx hb dX11_word_81 (by decide) (fun c114 => ?_) (fun c114 => ?_)
                              · have c115 : z113.toInt < 97 := Int32.lt_iff_toInt_lt.mp c114
                                have i116 : iv z113 (-128) 96 := iv_Ll c115 iz113 (iv_k (x := 97) (k := 97) rfl) (by decide)
                                refine lv_aload_n hx hb dX11_word_97 rfl (lv_at hl 2 rfl) ?_
                                refine lv_iload_n hx hb dX11_word_98 rfl (lv_at hl 0 rfl) ?_
                                refine t_put C h tf3 of3 hu0 (by decide) (by decide) (by decide) wf_60 fw_60 (k := 3) rfl flw_X11_90 (Or.inr ⟨_, _, _, rfl, rfl⟩) (v := .int z101) rfl rfl ⟨_, rfl, (iv_w i105 (by decide))⟩ dX11_word_99 (fun f119 H locs h tf119 of119 hq ha_ hn_ hk_ => ?_)
                                have k120 := hk_ 2 _ (by decide) k5
                                have k121 := hk_ 1 _ (by decide) k6
                                have k122 := atp.tg k7 hq htq (by decide)
                                have k124 := ha_
                                refine lv_iconst (v := 1) hx hb dX11_word_102 (by decide) ?_
                                exact u_zret C h hr hQ ⟨by decide, by decide⟩ (⟨⟨by decide, by decide⟩, tf119, of119, (fun _ => ⟨by omega, ⟨by omega, by omega, by omega, by omega⟩, by omega⟩), (fun h_ => absurd h_ (by decide)), ⟨z101, k124, (iv_w i105 (by decide)), (by have n1_ : (1 : Int32).toInt = 1 := rfl; have n0_ : (0 : Int32).toInt = 0 := rfl; omega)⟩⟩) (Nat.le_of_ble_eq_true rfl) (Nat.le_of_ble_eq_true rfl) dX11_word_103
                              · have c117 : 97 ≤ z113.toInt := Int32.le_iff_toInt_le.mp (iv_nlt c114)
                                have i118 : iv z113 97 127 := iv_Er c117 (iv_k (x := 97) (k := 97) rfl) iz113 (by decide)
                                refine lv_aload_n hx hb dX11_word_84 rfl (lv_at hl 2 rfl) ?_
                                refine t_getfd C h tf3 hu0 (by decide) wf_60 (v := .ref tq) k6 fl_X11_9 dX11_word_85 ?_
                                refine lv_iload_n hx hb dX11_word_88 rfl (lv_at hl 0 rfl) ?_
                                refine e_bald C h tf3 htq (by decide) wf_61 k7 (iv_in i105 (by decide)) dX11_word_89 (fun z125 ez125 iz125 => ?_)
                                have mz125 := congrArg Int32.toInt ez125
                                have hz125 := hB ((rn 32 32 B ln.toInt.toNat aa.toInt.toNat) + 4) (by omega)
                                have sz125 := sg_c hz125.2
                                have qz125 : z125.toInt = sg (B ((rn 32 32 B ln.toInt.toNat aa.toInt.toNat) + 4)) := by rw [mz125, ← hz125.1]; exact congrArg (fun z_ => (rt z_).toInt) (by omega)
                                refine lv_bipush (v := 122) hx hb dX11_word_90 (by decide) ?_
                                refine lv_icmp_gt (tgt := 97) hx hb dX11_word_92 (by decide) (fun c126 => ?_) (fun c126 => ?_)
                                · have c127 : 122 < z125.toInt := Int32.lt_iff_toInt_lt.mp c126
                                  have i128 : iv z125 123 127 := iv_Lr c127 (iv_k (x := 122) (k := 122) rfl) iz125 (by decide)
                                  refine lv_aload_n hx hb dX11_word_97 rfl (lv_at hl 2 rfl) ?_
                                  refine lv_iload_n hx hb dX11_word_98 rfl (lv_at hl 0 rfl) ?_
                                  refine t_put C h tf3 of3 hu0 (by decide) (by decide) (by decide) wf_60 fw_60 (k := 3) rfl flw_X11_90 (Or.inr ⟨_, _, _, rfl, rfl⟩) (v := .int z101) rfl rfl ⟨_, rfl, (iv_w i105 (by decide))⟩ dX11_word_99 (fun f131 H locs h tf131 of131 hq ha_ hn_ hk_ => ?_)
                                  have k132 := hk_ 2 _ (by decide) k5
                                  have k133 := hk_ 1 _ (by decide) k6
                                  have k134 := atp.tg k7 hq htq (by decide)
                                  have k136 := ha_
                                  refine lv_iconst (v := 1) hx hb dX11_word_102 (by decide) ?_
                                  exact u_zret C h hr hQ ⟨by decide, by decide⟩ (⟨⟨by decide, by decide⟩, tf131, of131, (fun _ => ⟨by omega, ⟨by omega, by omega, by omega, by omega⟩, by omega⟩), (fun h_ => absurd h_ (by decide)), ⟨z101, k136, (iv_w i105 (by decide)), (by have n1_ : (1 : Int32).toInt = 1 := rfl; have n0_ : (0 : Int32).toInt = 0 := rfl; omega)⟩⟩) (Nat.le_of_ble_eq_true rfl) (Nat.le_of_ble_eq_true rfl) dX11_word_103
                                · have c129 : z125.toInt ≤ 122 := Int32.le_iff_toInt_le.mp (iv_nlt c126)
                                  have i130 : iv z125 (-128) 122 := iv_El c129 iz125 (iv_k (x := 122) (k := 122) rfl) (by decide)
                                  refine lv_iconst (v := 0) hx hb dX11_word_95 (by decide) ?_
                                  exact u_zret C h hr hQ ⟨by decide, by decide⟩ (⟨⟨by decide, by decide⟩, tf3, of3, (fun h_ => absurd h_ (by decide)), (fun _ => (fun z_ => by obtain ⟨h1_, ⟨g0_, g1_, g2_, g3_⟩, h9_⟩ := z_; omega)), ⟨aa1_f3, kpu0_3f3, ipu0_3f3, (by have n1_ : (1 : Int32).toInt = 1 := rfl; have n0_ : (0 : Int32).toInt = 0 := rfl; omega)⟩⟩) (Nat.le_of_ble_eq_true rfl) (Nat.le_of_ble_eq_true rfl) dX11_word_96
                          · exact absurd c95 (by decide)
                        · have c91 : z84.toInt ≠ 109 := fun z_ => c88 (Int32.toInt_inj.mp z_)
                          refine lv_iconst (v := 0) hx hb dX11_word_47 (by decide) ?_
                          exact u_zret C h hr hQ ⟨by decide, by decide⟩ (⟨⟨by decide, by decide⟩, tf3, of3, (fun h_ => absurd h_ (by decide)), (fun _ => (fun z_ => by obtain ⟨h1_, ⟨g0_, g1_, g2_, g3_⟩, h9_⟩ := z_; omega)), ⟨aa1_f3, kpu0_3f3, ipu0_3f3, (by have n1_ : (1 : Int32).toInt = 1 := rfl; have n0_ : (0 : Int32).toInt = 0 := rfl; omega)⟩⟩) (Nat.le_of_ble_eq_true rfl) (Nat.le_of_ble_eq_true rfl) dX11_word_48
                  · have c70 : z63.toInt ≠ 111 := fun z_ => c67 (Int32.toInt_inj.mp z_)
                    refine lv_iconst (v := 0) hx hb dX11_word_47 (by decide) ?_
                    exact u_zret C h hr hQ ⟨by decide, by decide⟩ (⟨⟨by decide, by decide⟩, tf3, of3, (fun h_ => absurd h_ (by decide)), (fun _ => (fun z_ => by obtain ⟨h1_, ⟨g0_, g1_, g2_, g3_⟩, h9_⟩ := z_; omega)), ⟨aa1_f3, kpu0_3f3, ipu0_3f3, (by have n1_ : (1 : Int32).toInt = 1 := rfl; have n0_ : (0 : Int32).toInt = 0 := rfl; omega)⟩⟩) (Nat.le_of_ble_eq_true rfl) (Nat.le_of_ble_eq_true rfl) dX11_word_48
            · have c49 : z42.toInt ≠ 114 := fun z_ => c46 (Int32.toInt_inj.mp z_)
              refine lv_iconst (v := 0) hx hb dX11_word_47 (by decide) ?_
              exact u_zret C h hr hQ ⟨by decide, by decide⟩ (⟨⟨by decide, by decide⟩, tf3, of3, (fun h_ => absurd h_ (by decide)), (fun _ => (fun z_ => by obtain ⟨h1_, ⟨g0_, g1_, g2_, g3_⟩, h9_⟩ := z_; omega)), ⟨aa1_f3, kpu0_3f3, ipu0_3f3, (by have n1_ : (1 : Int32).toInt = 1 := rfl; have n0_ : (0 : Int32).toInt = 0 := rfl; omega)⟩⟩) (Nat.le_of_ble_eq_true rfl) (Nat.le_of_ble_eq_true rfl) dX11_word_48
      · have c28 : z21.toInt ≠ 102 := fun z_ => c25 (Int32.toInt_inj.mp z_)
        refine lv_iconst (v := 0) hx hb dX11_word_47 (by decide) ?_
        exact u_zret C h hr hQ ⟨by decide, by decide⟩ (⟨⟨by decide, by decide⟩, tf3, of3, (fun h_ => absurd h_ (by decide)), (fun _ => (fun z_ => by obtain ⟨h1_, ⟨g0_, g1_, g2_, g3_⟩, h9_⟩ := z_; omega)), ⟨aa1_f3, kpu0_3f3, ipu0_3f3, (by have n1_ : (1 : Int32).toInt = 1 := rfl; have n0_ : (0 : Int32).toInt = 0 := rfl; omega)⟩⟩) (Nat.le_of_ble_eq_true rfl) (Nat.le_of_ble_eq_true rfl) dX11_word_48
