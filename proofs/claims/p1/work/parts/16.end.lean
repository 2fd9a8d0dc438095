
set_option maxRecDepth 100000 in
set_option maxHeartbeats 4000000 in
theorem whole_start {p : Program} {e : Env} {s : State} {m : MethodId} {below : List Frame} {meth : Method} {c : Code} (l : Launch) (hflags : l.flags = flags0) {b L : Nat} {xs : Nat → Int32} (hL : L ≤ 8) (C0 : lw_At p s m meth c b L xs) : W p l e room_1 s m #[Value.ref b] below meth c s.heap [] 0 0 (lw_Z below #[Value.ref b] s) (entryFrame m ([Value.ref b] : List Value).toArray 7) := by
  have hst : l.stackTraces = false := by unfold Launch.stackTraces; rw [hflags]; decide +kernel
  obtain ⟨hx, hb, hr, hml, hown, hts0, hXs, hbl, hlk, hgv⟩ := id C0
  obtain ⟨D, G, hE0⟩ := hE_start hts0 hgv
  obtain ⟨b0, hb0⟩ : ∃ z, s.heap.size = z := ⟨_, rfl⟩
  rw [hb0] at hE0
  have hts : ∀ w ∈ wAll, w.before #[Value.ref b] s = true := fun w hw => hts0 w (wAll_tbl w hw)
  have C : hC p s m #[Value.ref b] meth c cL_law 7 RL D G b0 := ⟨hx, hb, hml, hown, hts, hE0, hlk⟩
  have hbA : ¬ hA b0 b := by rw [← hb0]; exact Nat.not_le.mpr hbl
  have h : hw D b0 s.heap (fun _ => none) s.heap [] := ⟨fun a x ha => (by cases ha), fun a x ha => (by cases ha), va_S.rf, (by rw [hb0]; exact Nat.le_refl _)⟩
  rw [lg_entry_eq]
  have hl := lv_entry ([.ref b]) (n := 7) (Nat.le_of_ble_eq_true rfl)
  generalize (lg_sl ([.ref b]) ++ List.replicate (7 - (lg_sl ([.ref b])).length) Slot.unset).toArray = ls at hl ⊢
  have hl : lv_has ls 7 [(0, .ref b)] := hl
  refine q_new C h nw_L_8 (Nat.le_of_ble_eq_true rfl) (Nat.le_of_ble_eq_true rfl) dL_law_0 (fun q_4264 H nq_4264 h => ?_)
  generalize ef_4265 : hu (fun _ => none) q_4264 (.inr (11, [.null, .null, .null, .null, .null, .null, .null, .null, .null, .null])) = f_4265 at h
  have k_4266 : f_4265 q_4264 = some (.inr (11, [.null, .null, .null, .null, .null, .null, .null, .null, .null, .null])) := by rw [← ef_4265]; exact hu_self _ _ _
  refine lv_dup hx hb dL_law_3 rfl ?_
  refine k_v (r_I C h hl (As := []) (rest := [.ref q_4264]) (c_X10_init l D G b0 f_4265 q_4264 k_4266) mk_X10_init rfl w_126 w_127 w_128 ⟨Nat.le_of_ble_eq_true rfl, Nat.le_of_ble_eq_true rfl⟩ rfl (Nat.le_of_ble_eq_true rfl) ⟨Nat.le_of_ble_eq_true rfl, Nat.le_of_ble_eq_true rfl⟩ rfl dL_law_4) h (fun f_4268 H locs p_4269 h => ?_)
  obtain ⟨X, hX0, hX⟩ := p_4269
  subst hX0
  obtain ⟨kx0, kx1, kx2, kx3, kx4, kx5, kx6, kx7, kx8, kx9⟩ := (id hX)
  refine lv_astore_n (lv' := [(1, .ref (X 0)), (0, .ref b)]) hx hb dL_law_7 rfl hl (by decide) rfl (fun ls hl => ?_)
  refine q_new C h nw_L_16 (Nat.le_of_ble_eq_true rfl) (Nat.le_of_ble_eq_true rfl) dL_law_8 (fun q_4270 H nq_4270 h => ?_)
  generalize ef_4271 : hu f_4268 q_4270 (.inr (12, [.int 0, .null, .int 0, .int 0, .int 0, .null, .null, .null, .null, .null, .int 0, .int 0, .null, .null, .int 0, .null, .null, .null, .long 0, .null, .null, .null, .null, .null, .null, .null, .null, .int 0, .int 0, .null, .null, .int 0])) = f_4271 at h
  have k_4272 : f_4271 (X 0) = some (.inr (11, [.ref (X 1), .ref (X 2), .ref (X 3), .ref (X 4), .ref (X 5), .ref (X 6), .ref (X 7), .ref (X 8), .ref (X 9), .ref (X 10)])) := by rw [← ef_4271]; exact hu_at kx0 (hne0 nq_4270 kx0)
  have k_4273 : f_4271 (X 1) = some (.inr (8, [.int 0, .ref (X 11), .ref (X 12), .int 0, .int 0, .int 0, .int 0])) := by rw [← ef_4271]; exact hu_at kx1 (hne0 nq_4270 kx1)
  have k_4274 : f_4271 (X 2) = some (.inr (1, [.int 0, .ref (X 13), .ref (X 14), .ref (X 15), .int 0, .int 0])) := by rw [← ef_4271]; exact hu_at kx2 (hne0 nq_4270 kx2)
  have k_4275 : f_4271 (X 8) = some (.inl (G 1, 4, .inl (fun _ => 0))) := by rw [← ef_4271]; exact hu_at kx3 (hne0 nq_4270 kx3)
  have k_4276 : f_4271 (X 11) = some (.inl (G 1, 200, .inl (fun _ => 0))) := by rw [← ef_4271]; exact hu_at kx4 (hne0 nq_4270 kx4)
  have k_4277 : f_4271 (X 12) = some (.inl (G 1, 8, .inl (fun _ => 0))) := by rw [← ef_4271]; exact hu_at kx5 (hne0 nq_4270 kx5)
  have k_4278 : f_4271 (X 13) = some (.inr (6, [.ref (X 16), .int 0])) := by rw [← ef_4271]; exact hu_at kx6 (hne0 nq_4270 kx6)
  have k_4279 : f_4271 (X 14) = some (.inr (6, [.ref (X 17), .int 0])) := by rw [← ef_4271]; exact hu_at kx7 (hne0 nq_4270 kx7)
  have k_4280 : f_4271 (X 16) = some (.inl (G 4, 8, .inr (.inr (.inr (.inr (fun _ => none)))))) := by rw [← ef_4271]; exact hu_at kx8 (hne0 nq_4270 kx8)
  have k_4281 : f_4271 (X 17) = some (.inl (G 4, 8, .inr (.inr (.inr (.inr (fun _ => none)))))) := by rw [← ef_4271]; exact hu_at kx9 (hne0 nq_4270 kx9)
  have k_4282 : f_4271 q_4270 = some (.inr (12, [.int 0, .null, .int 0, .int 0, .int 0, .null, .null, .null, .null, .null, .int 0, .int 0, .null, .null, .int 0, .null, .null, .null, .long 0, .null, .null, .null, .null, .null, .null, .null, .null, .int 0, .int 0, .null, .null, .int 0])) := by rw [← ef_4271]; exact hu_self _ _ _
  refine lv_dup hx hb dL_law_11 rfl ?_
  refine k_v (r_I C h hl (As := []) (rest := [.ref q_4270]) (c_X11_init l D G b0 f_4271 q_4270 k_4282) mk_X11_init rfl w_1429 w_1430 w_1431 ⟨Nat.le_of_ble_eq_true rfl, Nat.le_of_ble_eq_true rfl⟩ rfl (Nat.le_of_ble_eq_true rfl) ⟨Nat.le_of_ble_eq_true rfl, Nat.le_of_ble_eq_true rfl⟩ rfl dL_law_12) h (fun f_4284 H locs p_4285 h => ?_)
  obtain ⟨M, hM0, hM, hnn, hol⟩ := p_4285
  have d_4287 : X 0 ≠ q_4270 := (hne (4, 12) (4, 11) k_4282 k_4272 rfl rfl (by decide))
  have k_4286 : f_4284 (X 0) = some (.inr (11, [.ref (X 1), .ref (X 2), .ref (X 3), .ref (X 4), .ref (X 5), .ref (X 6), .ref (X 7), .ref (X 8), .ref (X 9), .ref (X 10)])) := ol_at hol k_4272 d_4287
  have d_4289 : X 1 ≠ q_4270 := (hne (4, 12) (4, 8) k_4282 k_4273 rfl rfl (by decide))
  have k_4288 : f_4284 (X 1) = some (.inr (8, [.int 0, .ref (X 11), .ref (X 12), .int 0, .int 0, .int 0, .int 0])) := ol_at hol k_4273 d_4289
  have d_4291 : X 2 ≠ q_4270 := (hne (4, 12) (4, 1) k_4282 k_4274 rfl rfl (by decide))
  have k_4290 : f_4284 (X 2) = some (.inr (1, [.int 0, .ref (X 13), .ref (X 14), .ref (X 15), .int 0, .int 0])) := ol_at hol k_4274 d_4291
  have d_4293 : X 8 ≠ q_4270 := (hne (4, 12) (1, 4) k_4282 k_4275 rfl rfl (by decide))
  have k_4292 : f_4284 (X 8) = some (.inl (G 1, 4, .inl (fun _ => 0))) := ol_at hol k_4275 d_4293
  have d_4295 : X 11 ≠ q_4270 := (hne (4, 12) (1, 200) k_4282 k_4276 rfl rfl (by decide))
  have k_4294 : f_4284 (X 11) = some (.inl (G 1, 200, .inl (fun _ => 0))) := ol_at hol k_4276 d_4295
  have d_4297 : X 12 ≠ q_4270 := (hne (4, 12) (1, 8) k_4282 k_4277 rfl rfl (by decide))
  have k_4296 : f_4284 (X 12) = some (.inl (G 1, 8, .inl (fun _ => 0))) := ol_at hol k_4277 d_4297
  have d_4299 : X 13 ≠ q_4270 := (hne (4, 12) (4, 6) k_4282 k_4278 rfl rfl (by decide))
  have k_4298 : f_4284 (X 13) = some (.inr (6, [.ref (X 16), .int 0])) := ol_at hol k_4278 d_4299
  have d_4301 : X 14 ≠ q_4270 := (hne (4, 12) (4, 6) k_4282 k_4279 rfl rfl (by decide))
  have k_4300 : f_4284 (X 14) = some (.inr (6, [.ref (X 17), .int 0])) := ol_at hol k_4279 d_4301
  have d_4303 : X 16 ≠ q_4270 := (hne (4, 12) (3, 8) k_4282 k_4280 rfl rfl (by decide))
  have k_4302 : f_4284 (X 16) = some (.inl (G 4, 8, .inr (.inr (.inr (.inr (fun _ => none)))))) := ol_at hol k_4280 d_4303
  have d_4305 : X 17 ≠ q_4270 := (hne (4, 12) (3, 8) k_4282 k_4281 rfl rfl (by decide))
  have k_4304 : f_4284 (X 17) = some (.inl (G 4, 8, .inr (.inr (.inr (.inr (fun _ => none)))))) := ol_at hol k_4281 d_4305
  subst hM0
  obtain ⟨km0, km1, km2, km3, km4, km5⟩ := (id hM)
  obtain ⟨z1, z2, z3, z4, z6⟩ := hnn
  have hMX : ∀ i, i ∈ XI → M 0 ≠ X i ∧ M 1 ≠ X i ∧ M 2 ≠ X i ∧ M 3 ≠ X i ∧ M 4 ≠ X i ∧ M 6 ≠ X i := List.forall_mem_cons.mpr ⟨⟨Ne.symm d_4287, (hne0 z1 k_4272).symm, (hne0 z2 k_4272).symm, (hne0 z3 k_4272).symm, (hne0 z4 k_4272).symm, (hne0 z6 k_4272).symm⟩, List.forall_mem_cons.mpr ⟨⟨Ne.symm d_4289, (hne0 z1 k_4273).symm, (hne0 z2 k_4273).symm, (hne0 z3 k_4273).symm, (hne0 z4 k_4273).symm, (hne0 z6 k_4273).symm⟩, List.forall_mem_cons.mpr ⟨⟨Ne.symm d_4291, (hne0 z1 k_4274).symm, (hne0 z2 k_4274).symm, (hne0 z3 k_4274).symm, (hne0 z4 k_4274).symm, (hne0 z6 k_4274).symm⟩, List.forall_mem_cons.mpr ⟨⟨Ne.symm d_4293, (hne0 z1 k_4275).symm, (hne0 z2 k_4275).symm, (hne0 z3 k_4275).symm, (hne0 z4 k_4275).symm, (hne0 z6 k_4275).symm⟩, List.forall_mem_cons.mpr ⟨⟨Ne.symm d_4295, (hne0 z1 k_4276).symm, (hne0 z2 k_4276).symm, (hne0 z3 k_4276).symm, (hne0 z4 k_4276).symm, (hne0 z6 k_4276).symm⟩, List.forall_mem_cons.mpr ⟨⟨Ne.symm d_4297, (hne0 z1 k_4277).symm, (hne0 z2 k_4277).symm, (hne0 z3 k_4277).symm, (hne0 z4 k_4277).symm, (hne0 z6 k_4277).symm⟩, List.forall_mem_cons.mpr ⟨⟨Ne.symm d_4299, (hne0 z1 k_4278).symm, (hne0 z2 k_4278).symm, (hne0 z3 k_4278).symm, (hne0 z4 k_4278).symm, (hne0 z6 k_4278).symm⟩, List.forall_mem_cons.mpr ⟨⟨Ne.symm d_4301, (hne0 z1 k_4279).symm, (hne0 z2 k_4279).symm, (hne0 z3 k_4279).symm, (hne0 z4 k_4279).symm, (hne0 z6 k_4279).symm⟩, List.forall_mem_cons.mpr ⟨⟨Ne.symm d_4303, (hne0 z1 k_4280).symm, (hne0 z2 k_4280).symm, (hne0 z3 k_4280).symm, (hne0 z4 k_4280).symm, (hne0 z6 k_4280).symm⟩, List.forall_mem_cons.mpr ⟨⟨Ne.symm d_4305, (hne0 z1 k_4281).symm, (hne0 z2 k_4281).symm, (hne0 z3 k_4281).symm, (hne0 z4 k_4281).symm, (hne0 z6 k_4281).symm⟩, fun _ h => absurd h List.not_mem_nil⟩⟩⟩⟩⟩⟩⟩⟩⟩⟩
  refine lv_astore_n (lv' := [(2, .ref (M 0)), (1, .ref (X 0)), (0, .ref b)]) hx hb dL_law_15 rfl hl (by decide) rfl (fun ls hl => ?_)
  refine lv_iconst (v := 1) hx hb dL_law_16 (by decide) ?_
  refine q_newa C h (atype := .long) 2 rfl rfl rfl w_235 (a0 := (1, .inr (.inl (fun _ => 0)))) (fun _ => rfl) (by decide) (N' := 1) (by decide) (Nat.le_of_ble_eq_true rfl) (Nat.le_of_ble_eq_true rfl) (Nat.le_of_ble_eq_true rfl) dL_law_17 (fun q_4306 H nq_4306 h => ?_)
  generalize ef_4307 : hu f_4284 q_4306 (.inl (G 2, 1, .inr (.inl (fun _ => 0)))) = f_4307 at h
  have k_4308 : f_4307 (X 0) = some (.inr (11, [.ref (X 1), .ref (X 2), .ref (X 3), .ref (X 4), .ref (X 5), .ref (X 6), .ref (X 7), .ref (X 8), .ref (X 9), .ref (X 10)])) := by rw [← ef_4307]; exact hu_at k_4286 (hne0 nq_4306 k_4286)
  have k_4309 : f_4307 (X 1) = some (.inr (8, [.int 0, .ref (X 11), .ref (X 12), .int 0, .int 0, .int 0, .int 0])) := by rw [← ef_4307]; exact hu_at k_4288 (hne0 nq_4306 k_4288)
  have k_4310 : f_4307 (X 2) = some (.inr (1, [.int 0, .ref (X 13), .ref (X 14), .ref (X 15), .int 0, .int 0])) := by rw [← ef_4307]; exact hu_at k_4290 (hne0 nq_4306 k_4290)
  have k_4311 : f_4307 (X 8) = some (.inl (G 1, 4, .inl (fun _ => 0))) := by rw [← ef_4307]; exact hu_at k_4292 (hne0 nq_4306 k_4292)
  have k_4312 : f_4307 (X 11) = some (.inl (G 1, 200, .inl (fun _ => 0))) := by rw [← ef_4307]; exact hu_at k_4294 (hne0 nq_4306 k_4294)
  have k_4313 : f_4307 (X 12) = some (.inl (G 1, 8, .inl (fun _ => 0))) := by rw [← ef_4307]; exact hu_at k_4296 (hne0 nq_4306 k_4296)
  have k_4314 : f_4307 (X 13) = some (.inr (6, [.ref (X 16), .int 0])) := by rw [← ef_4307]; exact hu_at k_4298 (hne0 nq_4306 k_4298)
  have k_4315 : f_4307 (X 14) = some (.inr (6, [.ref (X 17), .int 0])) := by rw [← ef_4307]; exact hu_at k_4300 (hne0 nq_4306 k_4300)
  have k_4316 : f_4307 (X 16) = some (.inl (G 4, 8, .inr (.inr (.inr (.inr (fun _ => none)))))) := by rw [← ef_4307]; exact hu_at k_4302 (hne0 nq_4306 k_4302)
  have k_4317 : f_4307 (X 17) = some (.inl (G 4, 8, .inr (.inr (.inr (.inr (fun _ => none)))))) := by rw [← ef_4307]; exact hu_at k_4304 (hne0 nq_4306 k_4304)
  have k_4318 : f_4307 (M 0) = some (.inr (12, [.int 0, .ref (M 1), .int 0, .int 0, .int 0, .ref (M 2), .ref (M 3), .ref (M 4), .ref (M 5), .ref (M 6), .int 0, .int 0, .ref (M 7), .ref (M 8), .int 0, .ref (M 9), .ref (M 10), .ref (M 11), .long 0, .ref (M 12), .ref (M 13), .ref (M 14), .ref (M 15), .ref (M 16), .ref (M 17), .ref (M 18), .ref (M 19), .int 0, .int 0, .ref (M 20), .ref (M 21), .int 0])) := by rw [← ef_4307]; exact hu_at km0 (hne0 nq_4306 km0)
  have k_4319 : f_4307 (M 1) = some (.inl (G 0, 200, .inl (fun _ => 0))) := by rw [← ef_4307]; exact hu_at km1 (hne0 nq_4306 km1)
  have k_4320 : f_4307 (M 2) = some (.inl (G 1, 10, .inl (fun _ => 0))) := by rw [← ef_4307]; exact hu_at km2 (hne0 nq_4306 km2)
  have k_4321 : f_4307 (M 3) = some (.inl (G 1, 81, .inl (fun _ => 0))) := by rw [← ef_4307]; exact hu_at km3 (hne0 nq_4306 km3)
  have k_4322 : f_4307 (M 4) = some (.inl (G 1, 81, .inl (fun _ => 0))) := by rw [← ef_4307]; exact hu_at km4 (hne0 nq_4306 km4)
  have k_4323 : f_4307 (M 6) = some (.inl (G 1, 4, .inl (fun _ => 0))) := by rw [← ef_4307]; exact hu_at km5 (hne0 nq_4306 km5)
  have k_4324 : f_4307 q_4306 = some (.inl (G 2, 1, .inr (.inl (fun _ => 0)))) := by rw [← ef_4307]; exact hu_self _ _ _
  refine lv_astore_n (lv' := [(3, .ref q_4306), (2, .ref (M 0)), (1, .ref (X 0)), (0, .ref b)]) hx hb dL_law_19 rfl hl (by decide) rfl (fun ls hl => ?_)
  refine lv_iconst (v := 0) hx hb dL_law_20 (by decide) ?_
  refine lv_istore (lv' := [(4, .int 0), (3, .ref q_4306), (2, .ref (M 0)), (1, .ref (X 0)), (0, .ref b)]) hx hb dL_law_21 hl (by decide) rfl (fun ls hl => ?_)
  have hX : xw G f_4307 X := ⟨k_4308, k_4309, k_4310, k_4311, k_4312, k_4313, k_4314, k_4315, k_4316, k_4317⟩
  have hM : mw G f_4307 M := ⟨k_4318, k_4319, k_4320, k_4321, k_4322, k_4323⟩
  have hl : lv_has ls 7 [(4, .int 0), (3, .ref q_4306), (2, .ref (M 0)), (1, .ref (X 0)), (0, .ref b)] := lv_sub hl [0, 1, 2, 3, 4] rfl
  refine lv_iload hx hb dL_law_23 (lv_at hl 0 rfl) ?_
  refine lv_aload_n hx hb dL_law_25 rfl (lv_at hl 4 rfl) ?_
  refine va_slen hx hb hXs hbl hbA h.2.2.1 dL_law_26 ?_
  refine lv_bipush (v := 8) hx hb dL_law_27 (by decide) ?_
  refine lv_isub hx hb dL_law_29 ?_
  refine lv_icmp_gt (tgt := 2599) hx hb dL_law_30 (by decide) (fun c_ => ?_) (fun c_ => ?_)
  · refine lv_iconst (v := 1) hx hb dL_law_2599 (by decide) ?_
    refine va_forget (fun q hq => by have := h.2.2.1.2.2 q hq; rw [hb0]; exact this) ?_
    refine W.widen (k := 600002) (n := 7302232) (Nat.le_of_ble_eq_true rfl) (Nat.le_of_ble_eq_true rfl) ?_
    exact lw_ret hx hb hr hlk dL_law_2600
  · have hL8 : L = 8 := len8 L hL c_
    subst hL8
    refine lv_aload_n hx hb dL_law_33 rfl (lv_at hl 4 rfl) ?_
    refine lv_iload hx hb dL_law_34 (lv_at hl 0 rfl) ?_
    refine va_sld hx hb hXs hbl hbA h.2.2.1 (by unfold vp_in; decide) dL_law_36 ?_
    refine lv_bipush (v := 63) hx hb dL_law_37 (by decide) ?_
    refine lv_iand hx hb dL_law_39 ?_
    obtain ⟨j, hj, ej⟩ := pk_andE (xs (Int32.toNatClampNeg 0)) (m := 63) 6 (by decide)
    rw [ej]
    exact law_sw hst C0 hb0 hE0 hX hM hMX h hl j hj
-- ===== YOUR PART ENDS =====
set_option maxHeartbeats 4000000 in
theorem lw_walk (l : Launch) (hflags : l.flags = flags0) (b : Addr) (xs : List Int32) : MetFree l x (headSpec (Jvm.Cond.code x code maxLocals ret :: tables_1) room_1) (lw_P b xs) (fun _ _ _ _ _ => True) lw_Q := by
  refine MetFree.of_bodyS (code := code) (maxLocals := maxLocals) (ret := ret) (by decide) ?_ ?_
  · intro args s m h hn
    obtain ⟨meth, c, h1, h2, h3, h4, h5, h6, -, -⟩ := Cond.code_spec hn (atoms_spec (ws := Jvm.Cond.code x code maxLocals ret :: tables_1) h _ List.mem_cons_self)
    exact ⟨meth, c, h1, h2, h3, h4, h5, h6⟩
  · intro p e s m args below meth c s₁ B hml0 hP _
    obtain ⟨rfl, hx, hbd, hgv⟩ := hP
    obtain ⟨scr, harrAt, hlist, hof, hsmall⟩ := hx
    obtain ⟨hcb, hkn, -, -⟩ := State.arrayAt?_spec harrAt
    have hown : s.vm.findClass R_law = some m.cls := findClass_of_methodNamed B.named
    have hts0 : ∀ c ∈ (Jvm.Cond.code x code maxLocals ret :: tables_1), c.before #[Value.ref b] s = true := atoms_spec (ws := Jvm.Cond.code x code maxLocals ret :: tables_1) B.pre
    have hts : ∀ w ∈ lw_tbl, w.before #[Value.ref b] s = true := k2_hts_sels lw_privs (fun w hw => hts0 w (List.mem_cons_of_mem _ hw)) lw_privs_ok
    have hml : c.maxLocals = 7 := B.maxLocals_eq (hts0 _ List.mem_cons_self)
    have X₀ : Stand p l e room_1 s m #[Value.ref b] below meth c s₁ [] 0 0 := Stand.of_body B
    have hh0 : s₁.heap = s.heap := by rw [B.state]; rfl
    have hsz : scr.slots.size = xs.length := by rw [← Array.length_toList, hlist, List.length_map]
    have hval : ∀ j : Nat, j < xs.length → scr.slots[j]? = some (.int (xs.getD j 0)) := fun j hj => by
      rw [← Array.getElem?_toList, hlist]
      simp [hj]
    have hbl : b < s.heap.size := (Array.getElem?_eq_some_iff.mp hcb).1
    have hX : va_X b xs.length (fun j => xs.getD j 0) s s.heap := ⟨scr, hcb, hof, hkn, hsz, hval⟩
    have K : W p l e room_1 s m #[Value.ref b] below meth c s₁.heap [] 0 0 (lw_Z below #[Value.ref b] s) (entryFrame m ([Value.ref b] : List Value).toArray 7) := by
      rw [hh0]
      exact whole_start l hflags hbd ⟨B.exec, B.bytes, B.returns, hml, hown, hts, hX, hbl, B.notSynchronized, hgv⟩
    obtain ⟨t, a1, o, b1, b2, b3⟩ := K s₁ rfl X₀
    exact ⟨t, o, a1, b1, b2, b3⟩
theorem lw_pre_spec {args : Array Value} {s : State} (h : (Jvm.Cond.and given_1 narrow_1).before args s = true) (hr : rest_1_c.before args s = true) : ∃ (b : Addr) (xs : List Int32), lw_P b xs args s := by
  have hs := flat_of_before _ h
  have hq := flat_of_before _ hr
  have hc : (Cond.count 1).before args s = true := hs _ (by decide +kernel)
  have harr : (Cond.arrayOf (.arg 0) .int).before args s = true := hs _ (by decide +kernel)
  have hle : (Cond.le (.length (.arg 0)) (.int 8)).before args s = true := hs _ (by decide +kernel)
  have hlen : (Cond.isInt (.length (.arg 0))).before args s = true := hq _ (by decide +kernel)
  have hall : (Cond.all (.arg 0) (.isInt (.elem (.arg 0) (.index 0)))).before args s = true := hq _ (by decide +kernel)
  obtain ⟨b, xs, hb, hx⟩ := State.ints_of_pre rfl harr hlen hall
  have hsm : xs.length < 2 ^ 31 := hx.choose_spec.2.2.2
  have hev : (Term.length (.arg 0)).eval args s none [] s = some (.int xs.length.toInt32) := hx.length_eval hb
  have hv := Cond.le_ints hev (show (Term.int 8).eval args s none [] s = some (.int 8) from rfl)
  have hd : xs.length.toInt32 ≤ 8 := by
    simpa [Cond.before, Cond.holds, hv] using hle
  have hN : xs.length ≤ 8 := (Int32.ofNat_le_ofNat hsm (by decide)).mp (show Int32.ofNat xs.length ≤ Int32.ofNat 8 from hd)
  exact ⟨b, xs, Cond.one_arg hc (show args[0]? = some (.ref b) from hb), hx, hN, h⟩
theorem lw_comes (l : Launch) (hflags : l.flags = flags0) : Comes l x (Jvm.Cond.code x code maxLocals ret :: tables_1) room_1 (fun tb e args s => Calls_1 tb e args s ∧ rest_1 tb e args s ∧ Pre_1 tb e args s)
    (fun _ _ args s o t => lw_Q args s o t) := by
  intro p e ha hc hk s m args below hf hfit hheap happ hpre
  obtain ⟨b, xs, hP⟩ := lw_pre_spec hpre.2.2 hpre.2.1
  obtain ⟨k, o, h1, h2, h3, hQ⟩ := lw_walk l hflags b xs p e ha hc hk s m args below hf ((Spec.applies_iff_loose hf).mp happ).1 hP trivial
  exact ⟨k, o, h1, h2, h3, hQ⟩
theorem lw_frame {s t : State} {o : Outcome} {args : Array Value} (h : Framed s o t [] 600002 7302232) :
    Framed s o t (fieldLocs frame_1_writes args s ++ arrayLocs frame_1_arrays args s ++ staticLocs frame_1_statics s) 600002 7302232 := h
theorem lw_limb (L : Cond) (hL : ∀ (args : Array Value) (s t : State), L.after args s (.returned (some (.int 1))) t = true) :
    ArmFor flags0 classFile x code maxLocals ret World_1 tables_1 room_1 Calls_1 rest_1 Pre_1
      (fun tb e a s o t => postC L tb e a s o t ∧ Framed s o t (fieldLocs frame_1_writes a s ++ arrayLocs frame_1_arrays a s ++ staticLocs frame_1_statics s) 600002 7302232) := by
  intro l hflags _ _ p e ha hc hk s m args below hf hfit hheap happ hpre
  obtain ⟨k, o, h1, h2, h3, rfl, hF⟩ := lw_comes l hflags p e ha hc hk s m args below hf hfit hheap happ hpre
  exact ⟨k, _, h1, h2, h3, hL args s _, lw_frame hF⟩
theorem i_vc : Claimed_1_1 ∧ Claimed_1_2 := ⟨lw_limb limb_1_1 (fun args s t => by simp [limb_1_1, Cond.after, Cond.holds, Cond.value]), lw_limb limb_1_2 (fun args s t => Cond.after_iff.mpr (by
  first | (rw [show limb_1_2 = Cond.eq .result (.int 1) from rfl, Cond.eq_ints (x := 1) (y := 1) rfl rfl]; simp; done) | (simp [limb_1_2, Cond.value, Term.eval]; done)))⟩
