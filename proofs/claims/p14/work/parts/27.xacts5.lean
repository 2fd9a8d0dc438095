theorem dX10_undo_0 : decode cX10_undo 0 = .ok (.aload_n 0, 1) := by decide +kernel
theorem dX10_undo_1 : decode cX10_undo 1 = .ok (.getfield 19, 3) := by decide +kernel
theorem dX10_undo_4 : decode cX10_undo 4 = .ok (.invokevirtual 358, 3) := by decide +kernel
theorem w_1289 : Cond.methodLink "QuarterWalks" 358 yX0_takeBack ∈ wAll := wI5 234 (by decide +kernel) (by decide +kernel)
theorem w_1291 : Cond.selects yX0_takeBack.cls yX0_takeBack yX0_takeBack ∈ wAll := wI5 236 (by decide +kernel) (by decide +kernel)
theorem mk_X0_takeBack : mk yX0_takeBack 0 := ⟨by decide +kernel, w_98⟩
theorem w_1290 : Cond.instanceMethod yX0_takeBack ∈ wAll := wI5 235 (by decide +kernel) (by decide +kernel)
theorem w_1292 : Cond.code yX0_takeBack cX0_takeBack 1 (some .int) ∈ wAll := wI5 237 (by decide +kernel) (by decide +kernel)
theorem dX10_undo_7 : decode cX10_undo 7 = .ok (.ireturn, 1) := by decide +kernel
theorem dX10_image_0 : decode cX10_image 0 = .ok (.aload_n 0, 1) := by decide +kernel
theorem dX10_image_1 : decode cX10_image 1 = .ok (.getfield 19, 3) := by decide +kernel
theorem dX10_image_4 : decode cX10_image 4 = .ok (.invokevirtual 361, 3) := by decide +kernel
theorem w_1297 : Cond.methodLink "QuarterWalks" 361 yX0_keep ∈ wAll := wI6 2 (by decide +kernel) (by decide +kernel)
theorem w_1299 : Cond.selects yX0_keep.cls yX0_keep yX0_keep ∈ wAll := wI6 4 (by decide +kernel) (by decide +kernel)
theorem mk_X0_keep : mk yX0_keep 0 := ⟨by decide +kernel, w_98⟩
theorem w_1298 : Cond.instanceMethod yX0_keep ∈ wAll := wI6 3 (by decide +kernel) (by decide +kernel)
theorem w_1300 : Cond.code yX0_keep cX0_keep 1 (some .int) ∈ wAll := wI6 5 (by decide +kernel) (by decide +kernel)
theorem dX10_image_7 : decode cX10_image 7 = .ok (.ireturn, 1) := by decide +kernel
theorem dX10_back_0 : decode cX10_back 0 = .ok (.aload_n 0, 1) := by decide +kernel
theorem dX10_back_1 : decode cX10_back 1 = .ok (.getfield 19, 3) := by decide +kernel
theorem dX10_back_4 : decode cX10_back 4 = .ok (.invokevirtual 364, 3) := by decide +kernel
theorem w_1305 : Cond.methodLink "QuarterWalks" 364 yX0_restore ∈ wAll := wI6 10 (by decide +kernel) (by decide +kernel)
theorem w_1307 : Cond.selects yX0_restore.cls yX0_restore yX0_restore ∈ wAll := wI6 12 (by decide +kernel) (by decide +kernel)
theorem mk_X0_restore : mk yX0_restore 0 := ⟨by decide +kernel, w_98⟩
theorem w_1306 : Cond.instanceMethod yX0_restore ∈ wAll := wI6 11 (by decide +kernel) (by decide +kernel)
theorem w_1308 : Cond.code yX0_restore cX0_restore 1 (some .int) ∈ wAll := wI6 13 (by decide +kernel) (by decide +kernel)
theorem dX10_back_7 : decode cX10_back 7 = .ok (.ireturn, 1) := by decide +kernel
theorem dX10_end_0 : decode cX10_end 0 = .ok (.iload_n 1, 1) := by decide +kernel
theorem dX10_end_1 : decode cX10_end 1 = .ok (.iconst 0, 1) := by decide +kernel
theorem dX10_end_2 : decode cX10_end 2 = .ok (.aload_n 0, 1) := by decide +kernel
theorem dX10_end_3 : decode cX10_end 3 = .ok (.getfield 12, 3) := by decide +kernel
theorem dX10_end_6 : decode cX10_end 6 = .ok (.getfield 79, 3) := by decide +kernel
theorem dX10_end_9 : decode cX10_end 9 = .ok (.invokestatic 87, 3) := by decide +kernel
theorem dX10_end_12 : decode cX10_end 12 = .ok (.ifCond .ne 5, 3) := by decide +kernel
theorem dX10_end_17 : decode cX10_end 17 = .ok (.aload_n 0, 1) := by decide +kernel
theorem dX10_end_18 : decode cX10_end 18 = .ok (.getfield 12, 3) := by decide +kernel
theorem dX10_end_21 : decode cX10_end 21 = .ok (.iload_n 1, 1) := by decide +kernel
theorem dX10_end_22 : decode cX10_end 22 = .ok (.putfield 79, 3) := by decide +kernel
theorem flw_X10_79 : flw RX10 79 8 0 (.int) := ⟨RX7, TX7, 7, tyX7, rfl, inA_X7, by decide, w_138, tyX7_ok, nmX7, by decide +kernel, Or.inl rfl⟩
theorem dX10_end_25 : decode cX10_end 25 = .ok (.iconst 1, 1) := by decide +kernel
theorem dX10_end_15 : decode cX10_end 15 = .ok (.iconst 0, 1) := by decide +kernel
theorem dX10_end_26 : decode cX10_end 26 = .ok (.ireturn, 1) := by decide +kernel
theorem dX10_end_16 : decode cX10_end 16 = .ok (.ireturn, 1) := by decide +kernel
theorem dX11_end_0 : decode cX11_end 0 = .ok (.aload_n 0, 1) := by decide +kernel
theorem dX11_end_1 : decode cX11_end 1 = .ok (.iconst 0, 1) := by decide +kernel
theorem dX11_end_2 : decode cX11_end 2 = .ok (.putfield 75, 3) := by decide +kernel
theorem dX11_end_5 : decode cX11_end 5 = .ok (.iload_n 1, 1) := by decide +kernel
theorem dX11_end_6 : decode cX11_end 6 = .ok (.ifCond .lt 11, 3) := by decide +kernel
theorem dX11_end_17 : decode cX11_end 17 = .ok (.iconst 0, 1) := by decide +kernel
theorem dX11_end_9 : decode cX11_end 9 = .ok (.iload_n 1, 1) := by decide +kernel
theorem dX11_end_10 : decode cX11_end 10 = .ok (.aload_n 0, 1) := by decide +kernel
theorem dX11_end_11 : decode cX11_end 11 = .ok (.getfield 79, 3) := by decide +kernel
theorem dX11_end_14 : decode cX11_end 14 = .ok (.if_icmp .le 5, 3) := by decide +kernel
theorem dX11_end_19 : decode cX11_end 19 = .ok (.aload_n 0, 1) := by decide +kernel
theorem dX11_end_20 : decode cX11_end 20 = .ok (.iload_n 1, 1) := by decide +kernel
theorem dX11_end_21 : decode cX11_end 21 = .ok (.putfield 79, 3) := by decide +kernel
theorem flw_X11_79 : flw RX11 79 12 2 (.int) := ⟨RX11, TX11, 32, tyX11, rfl, inA_X11, by decide, w_1435, tyX11_ok, nmX11, by decide +kernel, Or.inl rfl⟩
theorem dX11_end_24 : decode cX11_end 24 = .ok (.iconst 1, 1) := by decide +kernel
theorem dX11_end_18 : decode cX11_end 18 = .ok (.ireturn, 1) := by decide +kernel
theorem dX11_end_25 : decode cX11_end 25 = .ok (.ireturn, 1) := by decide +kernel
abbrev rm_s_X10_undoX : Room := { frames := 2, cells := 0, slots := 0, locals := 42 }
set_option maxRecDepth 100000 in
set_option maxHeartbeats 4000000 in
theorem s_X10_undoX (l : Launch) (D : va_G) (G : Nat → Nat) (b0 : Nat) (τ : Nat → Nat) (f : hM) (t : TI G 9 τ f) (u0 : Nat) (hu0 : τ u0 = 10) (sq : Nat) (hsq : τ sq = 18) (bo : Nat) (hbo : τ bo = 12) (k_u0_1 : atp f u0 (fd 1 (.ref bo))) (ac : Int32) (hac : iv ac 0 12) (k_bo_0 : atp f bo (fd 0 (.int ac))) (nx : Int32) (hnx : iv nx 0 11) (k_bo_5 : atp f bo (fd 5 (.int nx))) (sn : Nat) (hsn : τ sn = 15) (k_bo_1 : atp f bo (fd 1 (.ref sn))) (bf : Nat) (hbf : τ bf = 17) (k_bo_3 : atp f bo (fd 3 (.ref bf))) (qn : Nat) (hqn : τ qn = 4) (k_sn_0 : atp f sn (fd 0 (.ref qn))) (sz : Int32) (hsz : iv sz 0 8) (k_sn_1 : atp f sn (fd 1 (.int sz))) (qa : Nat) (hqa : τ qa = 4) (k_sq_0 : atp f sq (fd 0 (.ref qa))) (sa : Int32) (hsa : iv sa 0 8) (k_sq_1 : atp f sq (fd 1 (.int sa))) (rn : Nat → Option Nat) (hRqn : atp f qn (eqr G 4 8 rn)) (rf : Nat → Option Nat) (hRbf : atp f bf (eqr G 3 12 rf)) (ra : Nat → Option Nat) (hRqa : atp f qa (eqr G 4 8 ra)) (esq : rf ((nx.toInt + 11) % 12).toNat = some sq) (hab : qa ≠ qn)  : mI l yX10_undo cX10_undo 1 (.int) rm_s_X10_undoX D G b0 f [.ref u0] (fun r f1 => iv r (-1) 11 ∧ TI G 9 τ f1 ∧ Fr [4, 12, 15, 12001, 12006, 15002] τ f f1 ∧ ((ac.toInt = 0 → r.toInt = -1) ∧ (ac.toInt ≠ 0 → r.toInt = ac.toInt - 1)) ∧ (∃ nx1 : Int32, atp f1 bo (fd 5 (.int nx1)) ∧ iv nx1 0 11 ∧ (ac.toInt = 0 → nx1.toInt = nx.toInt) ∧ (ac.toInt ≠ 0 → nx1.toInt = (nx.toInt + 11) % 12)) ∧ (∃ ac1 : Int32, atp f1 bo (fd 0 (.int ac1)) ∧ iv ac1 0 12 ∧ (ac.toInt = 0 → ac1.toInt = 0) ∧ (ac.toInt ≠ 0 → ac1.toInt = ac.toInt - 1)) ∧ (∃ szn : Int32, atp f1 sn (fd 1 (.int szn)) ∧ iv szn 0 8 ∧ (ac.toInt = 0 → szn.toInt = sz.toInt) ∧ (ac.toInt ≠ 0 → szn.toInt = sa.toInt)) ∧ (∃ rn1 : Nat → Option Nat, atp f1 qn (eqr G 4 8 rn1) ∧ (∀ k : Nat, k < 8 → rn1 k = if ac.toInt = 0 then rn k else ra k)) ∧ FX [qn, sn, bo] f f1) := by
  refine met2 (own := RX10) (by decide) rfl (Nat.le_of_ble_eq_true rfl) ?_
  intro p e s m args below meth c ls Q hQ C hr hini hl h
  have hl : lv_has ls 1 [(0, .ref u0)] := hl
  obtain ⟨hx, hb, hml, hown, hts, hE0, hlk⟩ := id C
  have o := Fr.rf [4, 12, 15, 12001, 12006, 15002] τ f
  have hfx := FX.rf [qn, sn, bo] f
  refine lv_aload_n hx hb dX10_undo_0 rfl (lv_at hl 0 rfl) ?_
  refine t_getfd C h t hu0 (by decide) wf_10 (v := .ref bo) k_u0_1 fl_X10_19 dX10_undo_1 ?_
  obtain ⟨_, r1⟩ := t_rec t hbo (by decide) wf_12
  refine k_i (r_V C h hl (As := []) (rest := []) (s_X0_takeBackX l D G b0 τ f t bo hbo sq hsq ac hac k_bo_0 nx hnx k_bo_5 sn hsn k_bo_1 bf hbf k_bo_3 qn hqn k_sn_0 sz hsz k_sn_1 qa hqa k_sq_0 sa hsa k_sq_1 rn hRqn rf hRbf ra hRqa esq hab) r1 (Cn := RX0) (T := TX0) (N := 6) rfl rfl mk_X0_takeBack w_1289 w_1290 w_1291 w_1292 ⟨Nat.le_of_ble_eq_true rfl, Nat.le_of_ble_eq_true rfl⟩ rfl (Nat.le_of_ble_eq_true rfl) ⟨Nat.le_of_ble_eq_true rfl, Nat.le_of_ble_eq_true rfl⟩ rfl dX10_undo_4) h (fun r2 f3 H locs p4 h => ?_)
  obtain ⟨ir2, tf3, ogf3, x0r2, ⟨nx1_f3, kpu0_5f3, ipu0_5f3, rpu0_5f3⟩, ⟨ac1_f3, kpu0_0f3, ipu0_0f3, rpu0_0f3⟩, ⟨szn_f3, kpsn_1f3, ipsn_1f3, rpsn_1f3⟩, ⟨rn1_f3, kRqnf3, pRqnf3⟩, fxf3⟩ := p4
  have of3 : Fr [4, 12, 15, 12001, 12006, 15002] τ f f3 := Fr.tr o ogf3 (by decide) (by decide)
  have k5 := atp.fr k_u0_1 ogf3 hu0 (by decide)
  have k6 := atp.fk k_bo_1 ogf3 hbo (by decide) (by decide)
  have k7 := atp.fk k_bo_3 ogf3 hbo (by decide) (by decide)
  have k8 := atp.fk k_sn_0 ogf3 hsn (by decide) (by decide)
  have k9 := atp.fr k_sq_0 ogf3 hsq (by decide)
  have k10 := atp.fr k_sq_1 ogf3 hsq (by decide)
  have k11 := atp.fr hRbf ogf3 hbf (by decide)
  have k12 := FX.tr hfx fxf3 (by simp)
  exact u_iret C h hr hQ (⟨ir2, tf3, of3, (by omega), ⟨nx1_f3, kpu0_5f3, ipu0_5f3, (by omega)⟩, ⟨ac1_f3, kpu0_0f3, ipu0_0f3, (by omega)⟩, ⟨szn_f3, kpsn_1f3, ipsn_1f3, (by omega)⟩, ⟨rn1_f3, kRqnf3, pRqnf3⟩, k12⟩) (Nat.le_of_ble_eq_true rfl) (Nat.le_of_ble_eq_true rfl) dX10_undo_7
abbrev rm_s_X10_imageX : Room := { frames := 2, cells := 0, slots := 0, locals := 42 }
set_option maxRecDepth 100000 in
set_option maxHeartbeats 4000000 in
theorem s_X10_imageX (l : Launch) (D : va_G) (G : Nat → Nat) (b0 : Nat) (τ : Nat → Nat) (f : hM) (t : TI G 9 τ f) (u0 : Nat) (hu0 : τ u0 = 10) (bo : Nat) (hbo : τ bo = 12) (k_u0_1 : atp f u0 (fd 1 (.ref bo))) (sn : Nat) (hsn : τ sn = 15) (k_bo_1 : atp f bo (fd 1 (.ref sn))) (qn : Nat) (hqn : τ qn = 4) (k_sn_0 : atp f sn (fd 0 (.ref qn))) (sz : Int32) (hsz : iv sz 0 8) (k_sn_1 : atp f sn (fd 1 (.int sz))) (hi : Int32) (hhi : iv hi 0 1) (k_bo_4 : atp f bo (fd 4 (.int hi))) (sk : Nat) (hsk : τ sk = 16) (k_bo_2 : atp f bo (fd 2 (.ref sk))) (qk : Nat) (hqk : τ qk = 4) (k_sk_0 : atp f sk (fd 0 (.ref qk))) (rn : Nat → Option Nat) (hRqn : atp f qn (eqr G 4 8 rn)) (rk : Nat → Option Nat) (hRqk : atp f qk (eqr G 4 8 rk)) (hab : qn ≠ qk)  : mI l yX10_image cX10_image 1 (.int) rm_s_X10_imageX D G b0 f [.ref u0] (fun r f1 => iv r 0 8 ∧ TI G 9 τ f1 ∧ Fr [4, 12, 16, 12005, 16002] τ f f1 ∧ (r.toInt = sz.toInt) ∧ (∃ hi1 : Int32, atp f1 bo (fd 4 (.int hi1)) ∧ iv hi1 1 1 ∧ hi1.toInt = 1) ∧ (∃ szk : Int32, atp f1 sk (fd 1 (.int szk)) ∧ iv szk 0 8 ∧ szk.toInt = sz.toInt) ∧ (∃ rk1 : Nat → Option Nat, atp f1 qk (eqr G 4 8 rk1) ∧ (∀ k : Nat, k < 8 → rk1 k = rn k)) ∧ FX [qk, sk, bo] f f1) := by
  refine met2 (own := RX10) (by decide) rfl (Nat.le_of_ble_eq_true rfl) ?_
  intro p e s m args below meth c ls Q hQ C hr hini hl h
  have hl : lv_has ls 1 [(0, .ref u0)] := hl
  obtain ⟨hx, hb, hml, hown, hts, hE0, hlk⟩ := id C
  have o := Fr.rf [4, 12, 16, 12005, 16002] τ f
  have hfx := FX.rf [qk, sk, bo] f
  refine lv_aload_n hx hb dX10_image_0 rfl (lv_at hl 0 rfl) ?_
  refine t_getfd C h t hu0 (by decide) wf_10 (v := .ref bo) k_u0_1 fl_X10_19 dX10_image_1 ?_
  obtain ⟨_, r1⟩ := t_rec t hbo (by decide) wf_12
  refine k_i (r_V C h hl (As := []) (rest := []) (s_X0_keepX l D G b0 τ f t bo hbo sn hsn k_bo_1 qn hqn k_sn_0 sz hsz k_sn_1 hi hhi k_bo_4 sk hsk k_bo_2 qk hqk k_sk_0 rn hRqn rk hRqk hab) r1 (Cn := RX0) (T := TX0) (N := 6) rfl rfl mk_X0_keep w_1297 w_1298 w_1299 w_1300 ⟨Nat.le_of_ble_eq_true rfl, Nat.le_of_ble_eq_true rfl⟩ rfl (Nat.le_of_ble_eq_true rfl) ⟨Nat.le_of_ble_eq_true rfl, Nat.le_of_ble_eq_true rfl⟩ rfl dX10_image_4) h (fun r2 f3 H locs p4 h => ?_)
  obtain ⟨ir2, tf3, ogf3, x0r2, ⟨hi1_f3, kpu0_4f3, ipu0_4f3, rpu0_4f3⟩, ⟨szk_f3, kpsk_1f3, ipsk_1f3, rpsk_1f3⟩, ⟨rk1_f3, kRqkf3, pRqkf3⟩, fxf3⟩ := p4
  have of3 : Fr [4, 12, 16, 12005, 16002] τ f f3 := Fr.tr o ogf3 (by decide) (by decide)
  have k5 := atp.fr k_u0_1 ogf3 hu0 (by decide)
  have k6 := atp.fk k_bo_1 ogf3 hbo (by decide) (by decide)
  have k7 := atp.fr k_sn_0 ogf3 hsn (by decide)
  have k8 := atp.fr k_sn_1 ogf3 hsn (by decide)
  have k9 := atp.fk k_bo_2 ogf3 hbo (by decide) (by decide)
  have k10 := atp.fk k_sk_0 ogf3 hsk (by decide) (by decide)
  have k11 := FX.tr hfx fxf3 (by simp)
  exact u_iret C h hr hQ (⟨ir2, tf3, of3, (by omega), ⟨hi1_f3, kpu0_4f3, ipu0_4f3, (by omega)⟩, ⟨szk_f3, kpsk_1f3, ipsk_1f3, (by omega)⟩, ⟨rk1_f3, kRqkf3, pRqkf3⟩, k11⟩) (Nat.le_of_ble_eq_true rfl) (Nat.le_of_ble_eq_true rfl) dX10_image_7
abbrev rm_s_X10_backX : Room := { frames := 2, cells := 0, slots := 0, locals := 42 }
set_option maxRecDepth 100000 in
set_option maxHeartbeats 4000000 in
theorem s_X10_backX (l : Launch) (D : va_G) (G : Nat → Nat) (b0 : Nat) (τ : Nat → Nat) (f : hM) (t : TI G 9 τ f) (u0 : Nat) (hu0 : τ u0 = 10) (bo : Nat) (hbo : τ bo = 12) (k_u0_1 : atp f u0 (fd 1 (.ref bo))) (ac : Int32) (hac : iv ac 0 12) (k_bo_0 : atp f bo (fd 0 (.int ac))) (sn : Nat) (hsn : τ sn = 15) (k_bo_1 : atp f bo (fd 1 (.ref sn))) (qn : Nat) (hqn : τ qn = 4) (k_sn_0 : atp f sn (fd 0 (.ref qn))) (sz : Int32) (hsz : iv sz 0 8) (k_sn_1 : atp f sn (fd 1 (.int sz))) (hi : Int32) (hhi : iv hi 0 1) (k_bo_4 : atp f bo (fd 4 (.int hi))) (sk : Nat) (hsk : τ sk = 16) (k_bo_2 : atp f bo (fd 2 (.ref sk))) (qk : Nat) (hqk : τ qk = 4) (k_sk_0 : atp f sk (fd 0 (.ref qk))) (sy : Int32) (hsy : iv sy 0 8) (k_sk_1 : atp f sk (fd 1 (.int sy))) (rn : Nat → Option Nat) (hRqn : atp f qn (eqr G 4 8 rn)) (rk : Nat → Option Nat) (hRqk : atp f qk (eqr G 4 8 rk)) (hab : qk ≠ qn)  : mI l yX10_back cX10_back 1 (.int) rm_s_X10_backX D G b0 f [.ref u0] (fun r f1 => iv r (-1) 8 ∧ TI G 9 τ f1 ∧ Fr [4, 12, 15, 12001, 15002] τ f f1 ∧ ((hi.toInt = 0 → r.toInt = -1) ∧ (hi.toInt ≠ 0 → r.toInt = sy.toInt)) ∧ (∃ ac1 : Int32, atp f1 bo (fd 0 (.int ac1)) ∧ iv ac1 0 12 ∧ (hi.toInt = 0 → ac1.toInt = ac.toInt) ∧ (hi.toInt ≠ 0 → ac1.toInt = 0)) ∧ (∃ szn : Int32, atp f1 sn (fd 1 (.int szn)) ∧ iv szn 0 8 ∧ (hi.toInt = 0 → szn.toInt = sz.toInt) ∧ (hi.toInt ≠ 0 → szn.toInt = sy.toInt)) ∧ (∃ rn1 : Nat → Option Nat, atp f1 qn (eqr G 4 8 rn1) ∧ (∀ k : Nat, k < 8 → rn1 k = if hi.toInt = 0 then rn k else rk k)) ∧ FX [qn, sn, bo] f f1) := by
  refine met2 (own := RX10) (by decide) rfl (Nat.le_of_ble_eq_true rfl) ?_
  intro p e s m args below meth c ls Q hQ C hr hini hl h
  have hl : lv_has ls 1 [(0, .ref u0)] := hl
  obtain ⟨hx, hb, hml, hown, hts, hE0, hlk⟩ := id C
  have o := Fr.rf [4, 12, 15, 12001, 15002] τ f
  have hfx := FX.rf [qn, sn, bo] f
  refine lv_aload_n hx hb dX10_back_0 rfl (lv_at hl 0 rfl) ?_
  refine t_getfd C h t hu0 (by decide) wf_10 (v := .ref bo) k_u0_1 fl_X10_19 dX10_back_1 ?_
  obtain ⟨_, r1⟩ := t_rec t hbo (by decide) wf_12
  refine k_i (r_V C h hl (As := []) (rest := []) (s_X0_restoreX l D G b0 τ f t bo hbo ac hac k_bo_0 sn hsn k_bo_1 qn hqn k_sn_0 sz hsz k_sn_1 hi hhi k_bo_4 sk hsk k_bo_2 qk hqk k_sk_0 sy hsy k_sk_1 rn hRqn rk hRqk hab) r1 (Cn := RX0) (T := TX0) (N := 6) rfl rfl mk_X0_restore w_1305 w_1306 w_1307 w_1308 ⟨Nat.le_of_ble_eq_true rfl, Nat.le_of_ble_eq_true rfl⟩ rfl (Nat.le_of_ble_eq_true rfl) ⟨Nat.le_of_ble_eq_true rfl, Nat.le_of_ble_eq_true rfl⟩ rfl dX10_back_4) h (fun r2 f3 H locs p4 h => ?_)
  obtain ⟨ir2, tf3, ogf3, x0r2, ⟨ac1_f3, kpu0_0f3, ipu0_0f3, rpu0_0f3⟩, ⟨szn_f3, kpsn_1f3, ipsn_1f3, rpsn_1f3⟩, ⟨rn1_f3, kRqnf3, pRqnf3⟩, fxf3⟩ := p4
  have of3 : Fr [4, 12, 15, 12001, 15002] τ f f3 := Fr.tr o ogf3 (by decide) (by decide)
  have k5 := atp.fr k_u0_1 ogf3 hu0 (by decide)
  have k6 := atp.fk k_bo_1 ogf3 hbo (by decide) (by decide)
  have k7 := atp.fk k_sn_0 ogf3 hsn (by decide) (by decide)
  have k8 := atp.fk k_bo_4 ogf3 hbo (by decide) (by decide)
  have k9 := atp.fk k_bo_2 ogf3 hbo (by decide) (by decide)
  have k10 := atp.fr k_sk_0 ogf3 hsk (by decide)
  have k11 := atp.fr k_sk_1 ogf3 hsk (by decide)
  have k12 := FX.tr hfx fxf3 (by simp)
  exact u_iret C h hr hQ (⟨ir2, tf3, of3, (by omega), ⟨ac1_f3, kpu0_0f3, ipu0_0f3, (by omega)⟩, ⟨szn_f3, kpsn_1f3, ipsn_1f3, (by omega)⟩, ⟨rn1_f3, kRqnf3, pRqnf3⟩, k12⟩) (Nat.le_of_ble_eq_true rfl) (Nat.le_of_ble_eq_true rfl) dX10_back_7
abbrev rm_s_X10_endX : Room := { frames := 1, cells := 0, slots := 0, locals := 22 }
set_option maxRecDepth 100000 in
set_option maxHeartbeats 4000000 in
theorem s_X10_endX (l : Launch) (D : va_G) (G : Nat → Nat) (b0 : Nat) (τ : Nat → Nat) (f : hM) (t : TI G 9 τ f) (u0 : Nat) (hu0 : τ u0 = 10) (u1 : Int32) (hu1 : iv u1 (-2147483648) 2147483647) (ta : Nat) (hta : τ ta = 11) (k_u0_0 : atp f u0 (fd 0 (.ref ta))) (ln : Int32) (hln : iv ln 0 200) (k_ta_0 : atp f ta (fd 0 (.int ln))) : mI l yX10_end cX10_end 2 (.boolean) rm_s_X10_endX D G b0 f [.ref u0, .int u1] (fun r f1 => iv r 0 1 ∧ TI G 9 τ f1 ∧ Fr [11, 11001] τ f f1 ∧ (((0 ≤ u1.toInt ∧ u1.toInt ≤ ln.toInt) → r.toInt = 1) ∧ (¬ (0 ≤ u1.toInt ∧ u1.toInt ≤ ln.toInt) → r.toInt = 0)) ∧ (∃ ln1 : Int32, atp f1 ta (fd 0 (.int ln1)) ∧ iv ln1 0 200 ∧ ((0 ≤ u1.toInt ∧ u1.toInt ≤ ln.toInt) → ln1.toInt = u1.toInt) ∧ (¬ (0 ≤ u1.toInt ∧ u1.toInt ≤ ln.toInt) → ln1.toInt = ln.toInt)) ∧ FX [ta] f f1) := by
  refine met2 (own := RX10) (by decide) rfl (Nat.le_of_ble_eq_true rfl) ?_
  intro p e s m args below meth c ls Q hQ C hr hini hl h
  have hl : lv_has ls 2 [(0, .ref u0), (1, .int u1)] := hl
  obtain ⟨hx, hb, hml, hown, hts, hE0, hlk⟩ := id C
  have o := Fr.rf [11, 11001] τ f
  have hfx := FX.rf [ta] f
  refine lv_iload_n hx hb dX10_end_0 rfl (lv_at hl 1 rfl) ?_
  refine lv_iconst (v := 0) hx hb dX10_end_1 (by decide) ?_
  refine lv_aload_n hx hb dX10_end_2 rfl (lv_at hl 0 rfl) ?_
  refine t_getfd C h t hu0 (by decide) wf_10 (v := .ref ta) k_u0_0 fl_X10_12 dX10_end_3 ?_
  refine t_getfd C h t hta (by decide) wf_11 (v := .int ln) k_ta_0 fl_X10_79 dX10_end_6 ?_
  refine k_i (r_S C h hl (As := [.int u1, .int 0, .int ln]) (rest := []) (s_X10_within l D G b0 τ f t u1 hu1 0 (iv_w (iv_k (x := 0) (k := 0) rfl) (by decide)) ln (iv_w hln (by decide))) mk_X10_within w_425 w_426 w_427 ⟨Nat.le_of_ble_eq_true rfl, Nat.le_of_ble_eq_true rfl⟩ rfl (Nat.le_of_ble_eq_true rfl) ⟨Nat.le_of_ble_eq_true rfl, Nat.le_of_ble_eq_true rfl⟩ rfl dX10_end_9) h (fun r1 f2 H locs p3 h => ?_)
  have n4 : (0 : Int32).toInt = 0 := rfl
  obtain ⟨ir1, tf2, ogf2, cnr1, czr1⟩ := p3
  have egf2 := Fr.nil2 ogf2
  subst egf2
  refine lv_if_ne (tgt := 17) hx hb dX10_end_12 (by decide) (fun c5 => ?_) (fun c5 => ?_)
  · have c6 : r1.toInt ≠ 0 := fun z_ => c5 (Int32.toInt_inj.mp z_)
    have i7 : iv r1 1 1 := iv_Nl c6 ir1 (by decide)
    obtain ⟨i8, i9⟩ := cnr1 c6
    have i10 : iv u1 0 200 := ⟨by omega, by omega⟩
    refine lv_aload_n hx hb dX10_end_17 rfl (lv_at hl 0 rfl) ?_
    refine t_getfd C h t hu0 (by decide) wf_10 (v := .ref ta) k_u0_0 fl_X10_12 dX10_end_18 ?_
    refine lv_iload_n hx hb dX10_end_21 rfl (lv_at hl 1 rfl) ?_
    refine t_put C h t o hta (by decide) (by decide) (by decide) wf_11 fw_11 (k := 0) rfl flw_X10_79 (Or.inr ⟨_, _, _, rfl, rfl⟩) (v := .int u1) rfl rfl ⟨_, rfl, i10⟩ dX10_end_22 (fun f14 H locs h tf14 of14 hq ha_ hn_ hk_ => ?_)
    have k15 := atp.tg k_u0_0 hq hu0 (by decide)
    have k17 := FX.up hfx hn_ (by simp)
    have k18 := ha_
    refine lv_iconst (v := 1) hx hb dX10_end_25 (by decide) ?_
    exact u_zret C h hr hQ ⟨by decide, by decide⟩ (⟨⟨by decide, by decide⟩, tf14, of14, (by have n_ : (1 : Int32).toInt = 1 := rfl; omega), ⟨u1, k18, i10, (by omega)⟩, k17⟩) (Nat.le_of_ble_eq_true rfl) (Nat.le_of_ble_eq_true rfl) dX10_end_26
  · have c11 : r1.toInt = 0 := congrArg Int32.toInt c5
    have i12 : iv r1 0 0 := iv_Q c11 ir1 (iv_k (x := 0) (k := 0) rfl) (by decide)
    have i13 := czr1 c11
    refine lv_iconst (v := 0) hx hb dX10_end_15 (by decide) ?_
    exact u_zret C h hr hQ ⟨by decide, by decide⟩ (⟨⟨by decide, by decide⟩, t, o, (by have n_ : (0 : Int32).toInt = 0 := rfl; omega), ⟨ln, k_ta_0, hln, (by omega)⟩, hfx⟩) (Nat.le_of_ble_eq_true rfl) (Nat.le_of_ble_eq_true rfl) dX10_end_16
abbrev rm_s_X11_endX : Room := { frames := 0, cells := 0, slots := 0, locals := 0 }
set_option maxRecDepth 100000 in
set_option maxHeartbeats 4000000 in
theorem s_X11_endX (l : Launch) (D : va_G) (G : Nat → Nat) (b0 : Nat) (τ : Nat → Nat) (f : hM) (t : TI G 9 τ f) (u0 : Nat) (hu0 : τ u0 = 60) (u1 : Int32) (hu1 : iv u1 (-2147483648) 2147483647) (ln : Int32) (hln : iv ln 0 200) (k_u0_2 : atp f u0 (fd 2 (.int ln))) : mI l yX11_end cX11_end 2 (.boolean) rm_s_X11_endX D G b0 f [.ref u0, .int u1] (fun r f1 => iv r 0 1 ∧ TI G 9 τ f1 ∧ Fr [60, 60001, 60003] τ f f1 ∧ (((0 ≤ u1.toInt ∧ u1.toInt ≤ ln.toInt) → r.toInt = 1) ∧ (¬ (0 ≤ u1.toInt ∧ u1.toInt ≤ ln.toInt) → r.toInt = 0)) ∧ (∃ ln1 : Int32, atp f1 u0 (fd 2 (.int ln1)) ∧ iv ln1 0 200 ∧ ((0 ≤ u1.toInt ∧ u1.toInt ≤ ln.toInt) → ln1.toInt = u1.toInt) ∧ (¬ (0 ≤ u1.toInt ∧ u1.toInt ≤ ln.toInt) → ln1.toInt = ln.toInt))) := by
  refine met2 (own := RX11) (by decide) rfl (Nat.le_of_ble_eq_true rfl) ?_
  intro p e s m args below meth c ls Q hQ C hr hini hl h
  have hl : lv_has ls 2 [(0, .ref u0), (1, .int u1)] := hl
  obtain ⟨hx, hb, hml, hown, hts, hE0, hlk⟩ := id C
  have o := Fr.rf [60, 60001, 60003] τ f
  refine lv_aload_n hx hb dX11_end_0 rfl (lv_at hl 0 rfl) ?_
  refine lv_iconst (v := 0) hx hb dX11_end_1 (by decide) ?_
  refine t_put C h t o hu0 (by decide) (by decide) (by decide) wf_60 fw_60 (k := 0) rfl flw_X11_75 (Or.inr ⟨_, _, _, rfl, rfl⟩) (v := .int 0) rfl rfl ⟨_, rfl, ⟨by decide, by decide⟩⟩ dX11_end_2 (fun f1 H locs h tf1 of1 hq ha_ hn_ hk_ => ?_)
  have k2 := hk_ 2 _ (by decide) k_u0_2
  have k3 := ha_
  refine lv_iload_n hx hb dX11_end_5 rfl (lv_at hl 1 rfl) ?_
  refine lv_if_lt (tgt := 17) hx hb dX11_end_6 (by decide) (fun c4 => ?_) (fun c4 => ?_)
  · have c5 : u1.toInt < 0 := Int32.lt_iff_toInt_lt.mp c4
    have i6 : iv u1 (-2147483648) (-1) := iv_Ll c5 hu1 (iv_k (x := 0) (k := 0) rfl) (by decide)
    refine lv_iconst (v := 0) hx hb dX11_end_17 (by decide) ?_
    exact u_zret C h hr hQ ⟨by decide, by decide⟩ (⟨⟨by decide, by decide⟩, tf1, of1, (by have n_ : (0 : Int32).toInt = 0 := rfl; omega), ⟨ln, k2, hln, (by omega)⟩⟩) (Nat.le_of_ble_eq_true rfl) (Nat.le_of_ble_eq_true rfl) dX11_end_18
  · have c7 : 0 ≤ u1.toInt := Int32.le_iff_toInt_le.mp (iv_nlt c4)
    have i8 : iv u1 0 2147483647 := iv_Er c7 (iv_k (x := 0) (k := 0) rfl) hu1 (by decide)
    refine lv_iload_n hx hb dX11_end_9 rfl (lv_at hl 1 rfl) ?_
    refine lv_aload_n hx hb dX11_end_10 rfl (lv_at hl 0 rfl) ?_
    refine t_getfd C h tf1 hu0 (by decide) wf_60 (v := .int ln) k2 fl_X11_79 dX11_end_11 ?_
    refine lv_icmp_le (tgt := 19) hx hb dX11_end_14 (by decide) (fun c9 => ?_) (fun c9 => ?_)
    · have c10 : u1.toInt ≤ ln.toInt := Int32.le_iff_toInt_le.mp c9
      have i11 : iv u1 0 200 := iv_El c10 i8 hln (by decide)
      refine lv_aload_n hx hb dX11_end_19 rfl (lv_at hl 0 rfl) ?_
      refine lv_iload_n hx hb dX11_end_20 rfl (lv_at hl 1 rfl) ?_
      refine t_put C h tf1 of1 hu0 (by decide) (by decide) (by decide) wf_60 fw_60 (k := 2) rfl flw_X11_79 (Or.inr ⟨_, _, _, rfl, rfl⟩) (v := .int u1) rfl rfl ⟨_, rfl, i11⟩ dX11_end_21 (fun f14 H locs h tf14 of14 hq ha_ hn_ hk_ => ?_)
      have k16 := ha_
      refine lv_iconst (v := 1) hx hb dX11_end_24 (by decide) ?_
      exact u_zret C h hr hQ ⟨by decide, by decide⟩ (⟨⟨by decide, by decide⟩, tf14, of14, (by have n_ : (1 : Int32).toInt = 1 := rfl; omega), ⟨u1, k16, i11, (by omega)⟩⟩) (Nat.le_of_ble_eq_true rfl) (Nat.le_of_ble_eq_true rfl) dX11_end_25
    · have c12 : ln.toInt < u1.toInt := Int32.lt_iff_toInt_lt.mp (iv_nle c9)
      have i13 : iv u1 1 2147483647 := iv_Lr c12 hln i8 (by decide)
      refine lv_iconst (v := 0) hx hb dX11_end_17 (by decide) ?_
      exact u_zret C h hr hQ ⟨by decide, by decide⟩ (⟨⟨by decide, by decide⟩, tf1, of1, (by have n_ : (0 : Int32).toInt = 0 := rfl; omega), ⟨ln, k2, hln, (by omega)⟩⟩) (Nat.le_of_ble_eq_true rfl) (Nat.le_of_ble_eq_true rfl) dX11_end_18
abbrev rm_s_X10_statusX : Room := { frames := 1, cells := 0, slots := 0, locals := 22 }
set_option maxRecDepth 100000 in
set_option maxHeartbeats 4000000 in
theorem s_X10_statusX (l : Launch) (D : va_G) (G : Nat → Nat) (b0 : Nat) (τ : Nat → Nat) (f : hM) (t : TI G 9 τ f) (u0 : Nat) (hu0 : τ u0 = 10) (u1 : Int32) (hu1 : iv u1 (-2147483648) 2147483647) (fq : Nat) (hfq : τ fq = 50) (k_u0_7 : atp f u0 (fd 7 (.ref fq))) (rq : Nat → Int32) (hRfq : atp f fq (eqc (.inl (G 1, 4, .inl rq)))) : mI l yX10_status cX10_status 2 (.int) rm_s_X10_statusX D G b0 f [.ref u0, .int u1] (fun r f1 => iv r (-2147483648) 2147483647 ∧ TI G 9 τ f1 ∧ Fr [] τ f f1 ∧ (((0 ≤ u1.toInt ∧ u1.toInt ≤ 3) → r = rq u1.toInt.toNat)) ∧ ((¬ (0 ≤ u1.toInt ∧ u1.toInt ≤ 3) → r.toInt = -1))) := by
  refine met2 (own := RX10) (by decide) rfl (Nat.le_of_ble_eq_true rfl) ?_
  intro p e s m args below meth c ls Q hQ C hr hini hl h
  have hl : lv_has ls 2 [(0, .ref u0), (1, .int u1)] := hl
  obtain ⟨hx, hb, hml, hown, hts, hE0, hlk⟩ := id C
  have o := Fr.rf [] τ f
  refine lv_iload_n hx hb dX10_status_0 rfl (lv_at hl 1 rfl) ?_
  refine lv_iconst (v := 0) hx hb dX10_status_1 (by decide) ?_
  refine lv_aload_n hx hb dX10_status_2 rfl (lv_at hl 0 rfl) ?_
  refine t_getfd C h t hu0 (by decide) wf_10 (v := .ref fq) k_u0_7 fl_X10_60 dX10_status_3 ?_
  refine t_alen C h t hfq (by decide) (n := 4) (v := 4) (fun e_ h_ => Or.inl ⟨_, _, wf_50 e_ h_⟩) rfl dX10_status_6 ?_
  refine lv_iconst (v := 1) hx hb dX10_status_7 (by decide) ?_
  refine lv_isub hx hb dX10_status_8 (lv_topi (fun x_ e_ => ?_))
  obtain rfl : 3 = x_ := by rw [e_]; decide
  refine k_i (r_S C h hl (As := [.int u1, .int 0, .int 3]) (rest := []) (s_X10_within l D G b0 τ f t u1 hu1 0 (iv_w (iv_k (x := 0) (k := 0) rfl) (by decide)) 3 (iv_w (iv_k (x := 3) (k := 3) rfl) (by decide))) mk_X10_within w_425 w_426 w_427 ⟨Nat.le_of_ble_eq_true rfl, Nat.le_of_ble_eq_true rfl⟩ rfl (Nat.le_of_ble_eq_true rfl) ⟨Nat.le_of_ble_eq_true rfl, Nat.le_of_ble_eq_true rfl⟩ rfl dX10_status_9) h (fun r1 f2 H locs p3 h => ?_)
  have n4 : (0 : Int32).toInt = 0 := rfl
  have n5 : (3 : Int32).toInt = 3 := rfl
  obtain ⟨ir1, tf2, ogf2, cnr1, czr1⟩ := p3
  have egf2 := Fr.nil2 ogf2
  subst egf2
  refine lv_if_eq (tgt := 24) hx hb dX10_status_12 (by decide) (fun c6 => ?_) (fun c6 => ?_)
  · have c7 : r1.toInt = 0 := congrArg Int32.toInt c6
    have i8 : iv r1 0 0 := iv_Q c7 ir1 (iv_k (x := 0) (k := 0) rfl) (by decide)
    have i9 := czr1 c7
    refine lv_iconst (v := -1) hx hb dX10_status_24 (by decide) ?_
    exact u_iret C h hr hQ (⟨⟨by decide, by decide⟩, t, o, (fun z_ => absurd z_ (by omega)), (fun _ => rfl)⟩) (Nat.le_of_ble_eq_true rfl) (Nat.le_of_ble_eq_true rfl) dX10_status_25
  · have c10 : r1.toInt ≠ 0 := fun z_ => c6 (Int32.toInt_inj.mp z_)
    have i11 : iv r1 1 1 := iv_Nl c10 ir1 (by decide)
    obtain ⟨i12, i13⟩ := cnr1 c10
    have i14 : iv u1 0 3 := ⟨by omega, by omega⟩
    refine lv_aload_n hx hb dX10_status_15 rfl (lv_at hl 0 rfl) ?_
    refine t_getfd C h t hu0 (by decide) wf_10 (v := .ref fq) k_u0_7 fl_X10_60 dX10_status_16 ?_
    refine lv_iload_n hx hb dX10_status_19 rfl (lv_at hl 1 rfl) ?_
    refine e_iald C h t hfq (by decide) wf_50 hRfq (iv_in i14 (by decide)) dX10_status_20 (fun z15 ez15 iz15 => ?_)
    have mz15 := congrArg Int32.toInt ez15
    refine lv_goto (tgt := 25) hx hb dX10_status_21 (by decide) ?_
    exact u_iret C h hr hQ (⟨iz15, t, o, (fun _ => by rw [ez15]), (fun z_ => absurd (by omega) z_)⟩) (Nat.le_of_ble_eq_true rfl) (Nat.le_of_ble_eq_true rfl) dX10_status_25
abbrev rm_s_X11_statusX : Room := { frames := 1, cells := 0, slots := 0, locals := 25 }
set_option maxRecDepth 100000 in
set_option maxHeartbeats 4000000 in
theorem s_X11_statusX (l : Launch) (D : va_G) (G : Nat → Nat) (b0 : Nat) (τ : Nat → Nat) (f : hM) (t : TI G 9 τ f) (u0 : Nat) (hu0 : τ u0 = 60) (u1 : Int32) (hu1 : iv u1 (-2147483648) 2147483647) (fq : Nat) (hfq : τ fq = 66) (k_u0_9 : atp f u0 (fd 9 (.ref fq))) (rr : Nat → Int32) (hRfq : atp f fq (eqc (.inl (G 1, 4, .inl rr)))) : mI l yX11_status cX11_status 2 (.int) rm_s_X11_statusX D G b0 f [.ref u0, .int u1] (fun r f1 => iv r (-2147483648) 2147483647 ∧ TI G 9 τ f1 ∧ Fr [60, 60001] τ f f1 ∧ (((0 ≤ u1.toInt ∧ u1.toInt ≤ 3) → r = rr u1.toInt.toNat)) ∧ ((¬ (0 ≤ u1.toInt ∧ u1.toInt ≤ 3) → r.toInt = -1))) := by
  refine met2 (own := RX11) (by decide) rfl (Nat.le_of_ble_eq_true rfl) ?_
  intro p e s m args below meth c ls Q hQ C hr hini hl h
  have hl : lv_has ls 2 [(0, .ref u0), (1, .int u1)] := hl
  obtain ⟨hx, hb, hml, hown, hts, hE0, hlk⟩ := id C
  have o := Fr.rf [60, 60001] τ f
  refine lv_aload_n hx hb dX11_status_0 rfl (lv_at hl 0 rfl) ?_
  refine lv_iconst (v := 0) hx hb dX11_status_1 (by decide) ?_
  refine t_put C h t o hu0 (by decide) (by decide) (by decide) wf_60 fw_60 (k := 0) rfl flw_X11_75 (Or.inr ⟨_, _, _, rfl, rfl⟩) (v := .int 0) rfl rfl ⟨_, rfl, ⟨by decide, by decide⟩⟩ dX11_status_2 (fun f1 H locs h tf1 of1 hq ha_ hn_ hk_ => ?_)
  have k2 := hk_ 9 _ (by decide) k_u0_9
  have k3 := atp.tg hRfq hq hfq (by decide)
  have k4 := ha_
  refine lv_iload_n hx hb dX11_status_5 rfl (lv_at hl 1 rfl) ?_
  refine lv_i2l hx hb dX11_status_6 rfl (i_topL hu1 (fun w5 ew5 mw5 iw5 => ?_))
  refine lv_lconst (v := 0) hx hb dX11_status_7 (by decide) ?_
  refine lv_ldc2 (v := 3) hx hb hown (hts _ w_1940) dX11_status_8 ?_
  refine k_i (r_S C h hl (As := [.long w5, .long 0, .long 3]) (rest := []) (s_X11_isInX l D G b0 τ f1 tf1 w5 0 3) mk_X11_isIn w_1624 w_1625 w_1626 ⟨Nat.le_of_ble_eq_true rfl, Nat.le_of_ble_eq_true rfl⟩ rfl (Nat.le_of_ble_eq_true rfl) ⟨Nat.le_of_ble_eq_true rfl, Nat.le_of_ble_eq_true rfl⟩ rfl dX11_status_11) h (fun r6 f7 H locs p8 h => ?_)
  have n9 : (0 : Int64).toInt = 0 := rfl
  have n10 : (3 : Int64).toInt = 3 := rfl
  obtain ⟨ir6, tf7, ogf7, cnr6, czr6⟩ := p8
  have egf7 := Fr.nil2 ogf7
  subst egf7
  refine lv_if_eq (tgt := 26) hx hb dX11_status_14 (by decide) (fun c11 => ?_) (fun c11 => ?_)
  · have c12 : r6.toInt = 0 := congrArg Int32.toInt c11
    have i13 : iv r6 0 0 := iv_Q c12 ir6 (iv_k (x := 0) (k := 0) rfl) (by decide)
    have i14 := czr6 c12
    refine lv_iconst (v := -1) hx hb dX11_status_26 (by decide) ?_
    exact u_iret C h hr hQ (⟨⟨by decide, by decide⟩, tf1, of1, (fun z_ => absurd z_ (by omega)), (fun _ => rfl)⟩) (Nat.le_of_ble_eq_true rfl) (Nat.le_of_ble_eq_true rfl) dX11_status_27
  · have c15 : r6.toInt ≠ 0 := fun z_ => c11 (Int32.toInt_inj.mp z_)
    have i16 : iv r6 1 1 := iv_Nl c15 ir6 (by decide)
    obtain ⟨i17, i18⟩ := cnr6 c15
    have i19 : iv u1 0 3 := ⟨by omega, by omega⟩
    refine lv_aload_n hx hb dX11_status_17 rfl (lv_at hl 0 rfl) ?_
    refine t_getfd C h tf1 hu0 (by decide) wf_60 (v := .ref fq) k2 fl_X11_26 dX11_status_18 ?_
    refine lv_iload_n hx hb dX11_status_21 rfl (lv_at hl 1 rfl) ?_
    refine e_iald C h tf1 hfq (by decide) wf_66 k3 (iv_in i19 (by decide)) dX11_status_22 (fun z20 ez20 iz20 => ?_)
    have mz20 := congrArg Int32.toInt ez20
    refine lv_goto (tgt := 27) hx hb dX11_status_23 (by decide) ?_
    exact u_iret C h hr hQ (⟨iz20, tf1, of1, (fun _ => by rw [ez20]), (fun z_ => absurd (by omega) z_)⟩) (Nat.le_of_ble_eq_true rfl) (Nat.le_of_ble_eq_true rfl) dX11_status_27
abbrev rm_s_X0_sizeX : Room := { frames := 0, cells := 0, slots := 0, locals := 0 }
set_option maxRecDepth 100000 in
set_option maxHeartbeats 4000000 in
theorem s_X0_sizeX (l : Launch) (D : va_G) (G : Nat → Nat) (b0 : Nat) (τ : Nat → Nat) (f : hM) (t : TI G 9 τ f) (u0 : Nat) (hu0 : τ u0 = 12) (sn : Nat) (hsn : τ sn = 15) (k_u0_1 : atp f u0 (fd 1 (.ref sn))) (sz : Int32) (hsz : iv sz 0 8) (k_sn_1 : atp f sn (fd 1 (.int sz))) : mI l yX0_size cX0_size 1 (.int) rm_s_X0_sizeX D G b0 f [.ref u0] (fun r f1 => iv r 0 8 ∧ TI G 9 τ f1 ∧ Fr [] τ f f1 ∧ (r.toInt = sz.toInt)) := by
  refine met2 (own := RX0) (by decide) rfl (Nat.le_of_ble_eq_true rfl) ?_
  intro p e s m args below meth c ls Q hQ C hr hini hl h
  have hl : lv_has ls 1 [(0, .ref u0)] := hl
  obtain ⟨hx, hb, hml, hown, hts, hE0, hlk⟩ := id C
  have o := Fr.rf [] τ f
  refine lv_aload_n hx hb dX0_size_0 rfl (lv_at hl 0 rfl) ?_
  refine t_getfd C h t hu0 (by decide) wf_12 (v := .ref sn) k_u0_1 fl_X0_12 dX0_size_1 ?_
  refine t_getfd C h t hsn (by decide) wf_15 (v := .int sz) k_sn_1 fl_X0_25 dX0_size_4 ?_
  exact u_iret C h hr hQ (⟨hsz, t, o, rfl⟩) (Nat.le_of_ble_eq_true rfl) (Nat.le_of_ble_eq_true rfl) dX0_size_7
abbrev rm_s_X10_countX : Room := { frames := 1, cells := 0, slots := 0, locals := 20 }
set_option maxRecDepth 100000 in
set_option maxHeartbeats 4000000 in
theorem s_X10_countX (l : Launch) (D : va_G) (G : Nat → Nat) (b0 : Nat) (τ : Nat → Nat) (f : hM) (t : TI G 9 τ f) (u0 : Nat) (hu0 : τ u0 = 10) (u1 : Int32) (hu1 : iv u1 (-2147483648) 2147483647) (ta : Nat) (hta : τ ta = 11) (k_u0_0 : atp f u0 (fd 0 (.ref ta))) (ln : Int32) (hln : iv ln 0 200) (k_ta_0 : atp f ta (fd 0 (.int ln))) (bo : Nat) (hbo : τ bo = 12) (k_u0_1 : atp f u0 (fd 1 (.ref bo))) (ac : Int32) (hac : iv ac 0 12) (k_bo_0 : atp f bo (fd 0 (.int ac))) (sn : Nat) (hsn : τ sn = 15) (k_bo_1 : atp f bo (fd 1 (.ref sn))) (sz : Int32) (hsz : iv sz 0 8) (k_sn_1 : atp f sn (fd 1 (.int sz))) : mI l yX10_count cX10_count 2 (.int) rm_s_X10_countX D G b0 f [.ref u0, .int u1] (fun r f1 => iv r (-1) 200 ∧ TI G 9 τ f1 ∧ Fr [] τ f f1 ∧ (((u1.toInt = 0 → r.toInt = ln.toInt) ∧ (u1.toInt = 1 → r.toInt = ac.toInt) ∧ (u1.toInt = 2 → r.toInt = sz.toInt) ∧ (¬ (0 ≤ u1.toInt ∧ u1.toInt ≤ 2) → r.toInt = -1)))) := by
  refine met2 (own := RX10) (by decide) rfl (Nat.le_of_ble_eq_true rfl) ?_
  intro p e s m args below meth c ls Q hQ C hr hini hl h
  have hl : lv_has ls 2 [(0, .ref u0), (1, .int u1)] := hl
  obtain ⟨hx, hb, hml, hown, hts, hE0, hlk⟩ := id C
  have o := Fr.rf [] τ f
  refine lv_iload_n hx hb dX10_count_0 rfl (lv_at hl 1 rfl) ?_
  rcases sw_0_2 u1 with c1 | c1 | c1 | c1
  · refine lv_tableIn (tgt := 28) hx hb dX10_count_1 (by rw [c1]; decide) (by rw [c1]; decide) (off := 27) (by rw [c1]; rfl) (by decide) ?_
    have i2 : iv u1 0 0 := by rw [c1]; exact iv_k rfl
    refine lv_aload_n hx hb dX10_count_28 rfl (lv_at hl 0 rfl) ?_
    refine t_getfd C h t hu0 (by decide) wf_10 (v := .ref ta) k_u0_0 fl_X10_12 dX10_count_29 ?_
    refine t_getfd C h t hta (by decide) wf_11 (v := .int ln) k_ta_0 fl_X10_79 dX10_count_32 ?_
    exact u_iret C h hr hQ (⟨(iv_w hln (by decide)), t, o, (by omega)⟩) (Nat.le_of_ble_eq_true rfl) (Nat.le_of_ble_eq_true rfl) dX10_count_35
  · refine lv_tableIn (tgt := 36) hx hb dX10_count_1 (by rw [c1]; decide) (by rw [c1]; decide) (off := 35) (by rw [c1]; rfl) (by decide) ?_
    have i3 : iv u1 1 1 := by rw [c1]; exact iv_k rfl
    refine lv_aload_n hx hb dX10_count_36 rfl (lv_at hl 0 rfl) ?_
    refine t_getfd C h t hu0 (by decide) wf_10 (v := .ref bo) k_u0_1 fl_X10_19 dX10_count_37 ?_
    refine t_getfd C h t hbo (by decide) wf_12 (v := .int ac) k_bo_0 fl_X10_379 dX10_count_40 ?_
    exact u_iret C h hr hQ (⟨(iv_w hac (by decide)), t, o, (by omega)⟩) (Nat.le_of_ble_eq_true rfl) (Nat.le_of_ble_eq_true rfl) dX10_count_43
  · refine lv_tableIn (tgt := 44) hx hb dX10_count_1 (by rw [c1]; decide) (by rw [c1]; decide) (off := 43) (by rw [c1]; rfl) (by decide) ?_
    have i4 : iv u1 2 2 := by rw [c1]; exact iv_k rfl
    refine lv_aload_n hx hb dX10_count_44 rfl (lv_at hl 0 rfl) ?_
    refine t_getfd C h t hu0 (by decide) wf_10 (v := .ref bo) k_u0_1 fl_X10_19 dX10_count_45 ?_
    obtain ⟨_, r5⟩ := t_rec t hbo (by decide) wf_12
    refine k_i (r_V C h hl (As := []) (rest := []) (s_X0_sizeX l D G b0 τ f t bo hbo sn hsn k_bo_1 sz hsz k_sn_1) r5 (Cn := RX0) (T := TX0) (N := 6) rfl rfl mk_X0_size w_1321 w_1322 w_1323 w_1324 ⟨Nat.le_of_ble_eq_true rfl, Nat.le_of_ble_eq_true rfl⟩ rfl (Nat.le_of_ble_eq_true rfl) ⟨Nat.le_of_ble_eq_true rfl, Nat.le_of_ble_eq_true rfl⟩ rfl dX10_count_48) h (fun r6 f7 H locs p8 h => ?_)
    obtain ⟨ir6, tf7, ogf7, x0r6⟩ := p8
    have egf7 := Fr.nil2 ogf7
    subst egf7
    exact u_iret C h hr hQ (⟨(iv_w ir6 (by decide)), t, o, (by omega)⟩) (Nat.le_of_ble_eq_true rfl) (Nat.le_of_ble_eq_true rfl) dX10_count_51
  · refine lv_tableOut (tgt := 52) hx hb dX10_count_1 c1 (by decide) ?_
    refine lv_iconst (v := -1) hx hb dX10_count_52 (by decide) ?_
    exact u_iret C h hr hQ (⟨⟨by decide, by decide⟩, t, o, (by have n_ : (-1 : Int32).toInt = -1 := rfl; omega)⟩) (Nat.le_of_ble_eq_true rfl) (Nat.le_of_ble_eq_true rfl) dX10_count_53
abbrev rm_s_X11_countX : Room := { frames := 0, cells := 0, slots := 0, locals := 0 }
set_option maxRecDepth 100000 in
set_option maxHeartbeats 4000000 in
theorem s_X11_countX (l : Launch) (D : va_G) (G : Nat → Nat) (b0 : Nat) (τ : Nat → Nat) (f : hM) (t : TI G 9 τ f) (u0 : Nat) (hu0 : τ u0 = 60) (u1 : Int32) (hu1 : iv u1 (-2147483648) 2147483647) (ln : Int32) (hln : iv ln 0 200) (k_u0_2 : atp f u0 (fd 2 (.int ln))) (ac : Int32) (hac : iv ac 0 12) (k_u0_10 : atp f u0 (fd 10 (.int ac))) (bq : Nat) (hbq : τ bq = 63) (k_u0_6 : atp f u0 (fd 6 (.ref bq))) (rb : Nat → Int32) (hRbq : atp f bq (eqc (.inl (G 1, 81, .inl rb)))) : mI l yX11_count cX11_count 2 (.int) rm_s_X11_countX D G b0 f [.ref u0, .int u1] (fun r f1 => iv r (-1) 200 ∧ TI G 9 τ f1 ∧ Fr [60, 60001] τ f f1 ∧ (((u1.toInt = 0 → r.toInt = ln.toInt) ∧ (u1.toInt = 1 → r.toInt = ac.toInt) ∧ (u1.toInt = 2 → r.toInt = (rb 80).toInt) ∧ (¬ (0 ≤ u1.toInt ∧ u1.toInt ≤ 2) → r.toInt = -1)))) := by
  refine met2 (own := RX11) (by decide) rfl (Nat.le_of_ble_eq_true rfl) ?_
  intro p e s m args below meth c ls Q hQ C hr hini hl h
  have hl : lv_has ls 2 [(0, .ref u0), (1, .int u1)] := hl
  obtain ⟨hx, hb, hml, hown, hts, hE0, hlk⟩ := id C
  have o := Fr.rf [60, 60001] τ f
  refine lv_aload_n hx hb dX11_count_0 rfl (lv_at hl 0 rfl) ?_
  refine lv_iconst (v := 0) hx hb dX11_count_1 (by decide) ?_
  refine t_put C h t o hu0 (by decide) (by decide) (by decide) wf_60 fw_60 (k := 0) rfl flw_X11_75 (Or.inr ⟨_, _, _, rfl, rfl⟩) (v := .int 0) rfl rfl ⟨_, rfl, ⟨by decide, by decide⟩⟩ dX11_count_2 (fun f1 H locs h tf1 of1 hq ha_ hn_ hk_ => ?_)
  have k2 := hk_ 2 _ (by decide) k_u0_2
  have k3 := hk_ 10 _ (by decide) k_u0_10
  have k4 := hk_ 6 _ (by decide) k_u0_6
  have k5 := atp.tg hRbq hq hbq (by decide)
  have k6 := ha_
  refine lv_iload_n hx hb dX11_count_5 rfl (lv_at hl 1 rfl) ?_
  refine lv_if_ne (tgt := 16) hx hb dX11_count_6 (by decide) (fun c7 => ?_) (fun c7 => ?_)
  · have c8 : u1.toInt ≠ 0 := fun z_ => c7 (Int32.toInt_inj.mp z_)
    refine lv_iload_n hx hb dX11_count_16 rfl (lv_at hl 1 rfl) ?_
    refine lv_iconst (v := 1) hx hb dX11_count_17 (by decide) ?_
    refine lv_icmp_ne (tgt := 28) hx hb dX11_count_18 (by decide) (fun c11 => ?_) (fun c11 => ?_)
    · have c12 : u1.toInt ≠ 1 := fun z_ => c11 (Int32.toInt_inj.mp z_)
      refine lv_iload_n hx hb dX11_count_28 rfl (lv_at hl 1 rfl) ?_
      refine lv_iconst (v := 2) hx hb dX11_count_29 (by decide) ?_
      refine lv_icmp_ne (tgt := 43) hx hb dX11_count_30 (by decide) (fun c15 => ?_) (fun c15 => ?_)
      · have c16 : u1.toInt ≠ 2 := fun z_ => c15 (Int32.toInt_inj.mp z_)
        refine lv_iconst (v := -1) hx hb dX11_count_43 (by decide) ?_
        exact u_iret C h hr hQ (⟨⟨by decide, by decide⟩, tf1, of1, (by have n_ : (-1 : Int32).toInt = -1 := rfl; omega)⟩) (Nat.le_of_ble_eq_true rfl) (Nat.le_of_ble_eq_true rfl) dX11_count_44
      · have c17 : u1.toInt = 2 := congrArg Int32.toInt c15
        have i18 : iv u1 2 2 := iv_Q c17 hu1 (iv_k (x := 2) (k := 2) rfl) (by decide)
        refine lv_aload_n hx hb dX11_count_33 rfl (lv_at hl 0 rfl) ?_
        refine t_getfd C h tf1 hu0 (by decide) wf_60 (v := .ref bq) k4 fl_X11_17 dX11_count_34 ?_
        refine lv_bipush (v := 80) hx hb dX11_count_37 (by decide) ?_
        refine e_bk80 C h tf1 hbq (by decide) wf_63 k5 dX11_count_39 (fun z19 ez19 iz19 => ?_)
        have mz19 := congrArg Int32.toInt ez19
        refine lv_goto (tgt := 44) hx hb dX11_count_40 (by decide) ?_
        exact u_iret C h hr hQ (⟨(iv_w iz19 (by decide)), tf1, of1, (by omega)⟩) (Nat.le_of_ble_eq_true rfl) (Nat.le_of_ble_eq_true rfl) dX11_count_44
    · have c13 : u1.toInt = 1 := congrArg Int32.toInt c11
      have i14 : iv u1 1 1 := iv_Q c13 hu1 (iv_k (x := 1) (k := 1) rfl) (by decide)
      refine lv_aload_n hx hb dX11_count_21 rfl (lv_at hl 0 rfl) ?_
      refine t_getfd C h tf1 hu0 (by decide) wf_60 (v := .int ac) k3 fl_X11_155 dX11_count_22 ?_
      refine lv_goto (tgt := 44) hx hb dX11_count_25 (by decide) ?_
      exact u_iret C h hr hQ (⟨(iv_w hac (by decide)), tf1, of1, (by omega)⟩) (Nat.le_of_ble_eq_true rfl) (Nat.le_of_ble_eq_true rfl) dX11_count_44
  · have c9 : u1.toInt = 0 := congrArg Int32.toInt c7
    have i10 : iv u1 0 0 := iv_Q c9 hu1 (iv_k (x := 0) (k := 0) rfl) (by decide)
    refine lv_aload_n hx hb dX11_count_9 rfl (lv_at hl 0 rfl) ?_
    refine t_getfd C h tf1 hu0 (by decide) wf_60 (v := .int ln) k2 fl_X11_79 dX11_count_10 ?_
    refine lv_goto (tgt := 44) hx hb dX11_count_13 (by decide) ?_
    exact u_iret C h hr hQ (⟨(iv_w hln (by decide)), tf1, of1, (by omega)⟩) (Nat.le_of_ble_eq_true rfl) (Nat.le_of_ble_eq_true rfl) dX11_count_44
