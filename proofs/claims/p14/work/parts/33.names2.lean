/-! ===== what the model writes ===== -/
theorem ldcSw {p : Program} {l : Launch} {e : Env} {R : Room} {s : State} {m : MethodId} {args : Array Value} {below : List Frame} {meth : Method} {c : Code} {H : Heap} {locs : List Loc} {cells slots : Nat} {Q : State → Prop} {cc : ByteArray} {pc : Nat} {ls : Array Slot} {rest : List Value} (hexec : p.tables.exec = Jvm.exec) (hb : c.code = cc) {own tx : String} {index q : Nat} (hown : s.vm.findClass own = some m.cls) (hZ : vk_R own index tx q s) (hdg : decode cc pc = .ok (.ldc_w index, 3))
    (k : W p l e R s m args below meth c H locs cells slots Q (F0 m (pc + 3) ls (.ref q :: rest))) : W p l e R s m args below meth c H locs cells slots Q (F0 m pc ls rest) := by
  intro T hT X
  obtain ⟨t, a1, b1⟩ := k T hT X
  refine ⟨t, ?_, b1⟩
  obtain ⟨k0, cf, i, a', hk, hcf, hcp, -, hr, hev'⟩ := Cond.stringRef_spec (args := #[]) hown hZ.1
  cases hZ.2.symm.trans hev'
  obtain ⟨k', hk', he⟩ := X.warmed.alike.2.2 _ _ hk
  have hr' : k'.resolved[index]? = some (some (.string q)) := by
    rcases X.warmed.entry hk hk' index with h | ⟨h, -⟩
    · rw [h]; exact hr
    · rw [hr] at h; cases h
  have hdg' : decode c.code (F0 m pc ls rest).pc = .ok (.ldc_w index, 3) := by rw [hb]; exact hdg
  jvm_step X.here [hexec, hdg', ldc_w.wp_string (e := e) (s := T) (f := F0 m pc ls rest) X.here.top hk' (by rw [he]; exact hcf) hcp hr']
  exact a1
theorem dX11_nameOf_0 : decode cX11_nameOf 0 = .ok (.iload_n 0, 1) := by decide +kernel
theorem dX11_nameOf_1 : decode cX11_nameOf 1 = .ok (.tableswitch 64 0 6 #[43, 46, 49, 52, 55, 58, 61], 43) := by decide +kernel
theorem dX11_nameOf_44 : decode cX11_nameOf 44 = .ok (.ldc 114, 2) := by decide +kernel
theorem dX11_nameOf_46 : decode cX11_nameOf 46 = .ok (.areturn, 1) := by decide +kernel
theorem dX11_nameOf_47 : decode cX11_nameOf 47 = .ok (.ldc 120, 2) := by decide +kernel
theorem dX11_nameOf_49 : decode cX11_nameOf 49 = .ok (.areturn, 1) := by decide +kernel
theorem dX11_nameOf_50 : decode cX11_nameOf 50 = .ok (.ldc 122, 2) := by decide +kernel
theorem dX11_nameOf_52 : decode cX11_nameOf 52 = .ok (.areturn, 1) := by decide +kernel
theorem dX11_nameOf_53 : decode cX11_nameOf 53 = .ok (.ldc 124, 2) := by decide +kernel
theorem dX11_nameOf_55 : decode cX11_nameOf 55 = .ok (.areturn, 1) := by decide +kernel
theorem dX11_nameOf_56 : decode cX11_nameOf 56 = .ok (.ldc 126, 2) := by decide +kernel
theorem dX11_nameOf_58 : decode cX11_nameOf 58 = .ok (.areturn, 1) := by decide +kernel
theorem dX11_nameOf_59 : decode cX11_nameOf 59 = .ok (.ldc 128, 2) := by decide +kernel
theorem dX11_nameOf_61 : decode cX11_nameOf 61 = .ok (.areturn, 1) := by decide +kernel
theorem dX11_nameOf_62 : decode cX11_nameOf 62 = .ok (.ldc 130, 2) := by decide +kernel
theorem dX11_nameOf_64 : decode cX11_nameOf 64 = .ok (.areturn, 1) := by decide +kernel
theorem dX11_nameOf_65 : decode cX11_nameOf 65 = .ok (.ldc 132, 2) := by decide +kernel
theorem dX11_nameOf_67 : decode cX11_nameOf 67 = .ok (.areturn, 1) := by decide +kernel
abbrev rm_c_nameOf0 : Room := { frames := 0, cells := 0, slots := 0, locals := 0 }
set_option maxRecDepth 100000 in
theorem c_nameOf0 (l : Launch) (D : va_G) (G : Nat → Nat) (b0 : Nat) (f : hM) (x : Int32) (hx9 : x = 0) : mQ l yX11_nameOf cX11_nameOf 1 (.object "java/lang/String") rm_c_nameOf0 D G b0 f [.int x] (fun r f1 => r = some (G (20 + 0)) ∧ f = f1) := by
  refine met2 (own := RX11) (by decide) rfl (Nat.le_of_ble_eq_true rfl) ?_
  intro p e s m args below meth c ls Q hQ C hr hini hl h
  have hl : lv_has ls 1 [(0, .int x)] := hl
  obtain ⟨hx, hb, hml, hown, hts, hE0, hlk⟩ := id C
  have hvk := hE0.2.2.2.2.2.2.2.2.2.1
  refine lv_iload_n hx hb dX11_nameOf_0 rfl (lv_at hl 0 rfl) ?_
  subst hx9
  refine lv_tableIn (tgt := 44) hx hb dX11_nameOf_1 (by decide) (by decide) (off := 43) (by rfl) (by decide) ?_
  refine va_ldcS hx hb hown (hE0.2.2.2.2.2.2.2.2.1 ("QuarterWalksModel", 114, "n", 0) (by decide)) dX11_nameOf_44 ?_
  exact u_aret C h hr (Or.inl ⟨_, rfl⟩) hQ (v := some (G (20 + 0))) ⟨rfl, rfl⟩ (Nat.le_of_ble_eq_true rfl) (Nat.le_of_ble_eq_true rfl) rfl dX11_nameOf_46
abbrev rm_c_nameOf1 : Room := { frames := 0, cells := 0, slots := 0, locals := 0 }
set_option maxRecDepth 100000 in
theorem c_nameOf1 (l : Launch) (D : va_G) (G : Nat → Nat) (b0 : Nat) (f : hM) (x : Int32) (hx9 : x = 1) : mQ l yX11_nameOf cX11_nameOf 1 (.object "java/lang/String") rm_c_nameOf1 D G b0 f [.int x] (fun r f1 => r = some (G (20 + 1)) ∧ f = f1) := by
  refine met2 (own := RX11) (by decide) rfl (Nat.le_of_ble_eq_true rfl) ?_
  intro p e s m args below meth c ls Q hQ C hr hini hl h
  have hl : lv_has ls 1 [(0, .int x)] := hl
  obtain ⟨hx, hb, hml, hown, hts, hE0, hlk⟩ := id C
  have hvk := hE0.2.2.2.2.2.2.2.2.2.1
  refine lv_iload_n hx hb dX11_nameOf_0 rfl (lv_at hl 0 rfl) ?_
  subst hx9
  refine lv_tableIn (tgt := 47) hx hb dX11_nameOf_1 (by decide) (by decide) (off := 46) (by rfl) (by decide) ?_
  refine va_ldcS hx hb hown (hE0.2.2.2.2.2.2.2.2.1 ("QuarterWalksModel", 120, "ne", 1) (by decide)) dX11_nameOf_47 ?_
  exact u_aret C h hr (Or.inl ⟨_, rfl⟩) hQ (v := some (G (20 + 1))) ⟨rfl, rfl⟩ (Nat.le_of_ble_eq_true rfl) (Nat.le_of_ble_eq_true rfl) rfl dX11_nameOf_49
abbrev rm_c_nameOf2 : Room := { frames := 0, cells := 0, slots := 0, locals := 0 }
set_option maxRecDepth 100000 in
theorem c_nameOf2 (l : Launch) (D : va_G) (G : Nat → Nat) (b0 : Nat) (f : hM) (x : Int32) (hx9 : x = 2) : mQ l yX11_nameOf cX11_nameOf 1 (.object "java/lang/String") rm_c_nameOf2 D G b0 f [.int x] (fun r f1 => r = some (G (20 + 2)) ∧ f = f1) := by
  refine met2 (own := RX11) (by decide) rfl (Nat.le_of_ble_eq_true rfl) ?_
  intro p e s m args below meth c ls Q hQ C hr hini hl h
  have hl : lv_has ls 1 [(0, .int x)] := hl
  obtain ⟨hx, hb, hml, hown, hts, hE0, hlk⟩ := id C
  have hvk := hE0.2.2.2.2.2.2.2.2.2.1
  refine lv_iload_n hx hb dX11_nameOf_0 rfl (lv_at hl 0 rfl) ?_
  subst hx9
  refine lv_tableIn (tgt := 50) hx hb dX11_nameOf_1 (by decide) (by decide) (off := 49) (by rfl) (by decide) ?_
  refine va_ldcS hx hb hown (hE0.2.2.2.2.2.2.2.2.1 ("QuarterWalksModel", 122, "e", 2) (by decide)) dX11_nameOf_50 ?_
  exact u_aret C h hr (Or.inl ⟨_, rfl⟩) hQ (v := some (G (20 + 2))) ⟨rfl, rfl⟩ (Nat.le_of_ble_eq_true rfl) (Nat.le_of_ble_eq_true rfl) rfl dX11_nameOf_52
abbrev rm_c_nameOf3 : Room := { frames := 0, cells := 0, slots := 0, locals := 0 }
set_option maxRecDepth 100000 in
theorem c_nameOf3 (l : Launch) (D : va_G) (G : Nat → Nat) (b0 : Nat) (f : hM) (x : Int32) (hx9 : x = 3) : mQ l yX11_nameOf cX11_nameOf 1 (.object "java/lang/String") rm_c_nameOf3 D G b0 f [.int x] (fun r f1 => r = some (G (20 + 3)) ∧ f = f1) := by
  refine met2 (own := RX11) (by decide) rfl (Nat.le_of_ble_eq_true rfl) ?_
  intro p e s m args below meth c ls Q hQ C hr hini hl h
  have hl : lv_has ls 1 [(0, .int x)] := hl
  obtain ⟨hx, hb, hml, hown, hts, hE0, hlk⟩ := id C
  have hvk := hE0.2.2.2.2.2.2.2.2.2.1
  refine lv_iload_n hx hb dX11_nameOf_0 rfl (lv_at hl 0 rfl) ?_
  subst hx9
  refine lv_tableIn (tgt := 53) hx hb dX11_nameOf_1 (by decide) (by decide) (off := 52) (by rfl) (by decide) ?_
  refine va_ldcS hx hb hown (hE0.2.2.2.2.2.2.2.2.1 ("QuarterWalksModel", 124, "se", 3) (by decide)) dX11_nameOf_53 ?_
  exact u_aret C h hr (Or.inl ⟨_, rfl⟩) hQ (v := some (G (20 + 3))) ⟨rfl, rfl⟩ (Nat.le_of_ble_eq_true rfl) (Nat.le_of_ble_eq_true rfl) rfl dX11_nameOf_55
abbrev rm_c_nameOf4 : Room := { frames := 0, cells := 0, slots := 0, locals := 0 }
set_option maxRecDepth 100000 in
theorem c_nameOf4 (l : Launch) (D : va_G) (G : Nat → Nat) (b0 : Nat) (f : hM) (x : Int32) (hx9 : x = 4) : mQ l yX11_nameOf cX11_nameOf 1 (.object "java/lang/String") rm_c_nameOf4 D G b0 f [.int x] (fun r f1 => r = some (G (20 + 4)) ∧ f = f1) := by
  refine met2 (own := RX11) (by decide) rfl (Nat.le_of_ble_eq_true rfl) ?_
  intro p e s m args below meth c ls Q hQ C hr hini hl h
  have hl : lv_has ls 1 [(0, .int x)] := hl
  obtain ⟨hx, hb, hml, hown, hts, hE0, hlk⟩ := id C
  have hvk := hE0.2.2.2.2.2.2.2.2.2.1
  refine lv_iload_n hx hb dX11_nameOf_0 rfl (lv_at hl 0 rfl) ?_
  subst hx9
  refine lv_tableIn (tgt := 56) hx hb dX11_nameOf_1 (by decide) (by decide) (off := 55) (by rfl) (by decide) ?_
  refine va_ldcS hx hb hown (hE0.2.2.2.2.2.2.2.2.1 ("QuarterWalksModel", 126, "s", 4) (by decide)) dX11_nameOf_56 ?_
  exact u_aret C h hr (Or.inl ⟨_, rfl⟩) hQ (v := some (G (20 + 4))) ⟨rfl, rfl⟩ (Nat.le_of_ble_eq_true rfl) (Nat.le_of_ble_eq_true rfl) rfl dX11_nameOf_58
abbrev rm_c_nameOf5 : Room := { frames := 0, cells := 0, slots := 0, locals := 0 }
set_option maxRecDepth 100000 in
theorem c_nameOf5 (l : Launch) (D : va_G) (G : Nat → Nat) (b0 : Nat) (f : hM) (x : Int32) (hx9 : x = 5) : mQ l yX11_nameOf cX11_nameOf 1 (.object "java/lang/String") rm_c_nameOf5 D G b0 f [.int x] (fun r f1 => r = some (G (20 + 5)) ∧ f = f1) := by
  refine met2 (own := RX11) (by decide) rfl (Nat.le_of_ble_eq_true rfl) ?_
  intro p e s m args below meth c ls Q hQ C hr hini hl h
  have hl : lv_has ls 1 [(0, .int x)] := hl
  obtain ⟨hx, hb, hml, hown, hts, hE0, hlk⟩ := id C
  have hvk := hE0.2.2.2.2.2.2.2.2.2.1
  refine lv_iload_n hx hb dX11_nameOf_0 rfl (lv_at hl 0 rfl) ?_
  subst hx9
  refine lv_tableIn (tgt := 59) hx hb dX11_nameOf_1 (by decide) (by decide) (off := 58) (by rfl) (by decide) ?_
  refine va_ldcS hx hb hown (hE0.2.2.2.2.2.2.2.2.1 ("QuarterWalksModel", 128, "sw", 5) (by decide)) dX11_nameOf_59 ?_
  exact u_aret C h hr (Or.inl ⟨_, rfl⟩) hQ (v := some (G (20 + 5))) ⟨rfl, rfl⟩ (Nat.le_of_ble_eq_true rfl) (Nat.le_of_ble_eq_true rfl) rfl dX11_nameOf_61
abbrev rm_c_nameOf6 : Room := { frames := 0, cells := 0, slots := 0, locals := 0 }
set_option maxRecDepth 100000 in
theorem c_nameOf6 (l : Launch) (D : va_G) (G : Nat → Nat) (b0 : Nat) (f : hM) (x : Int32) (hx9 : x = 6) : mQ l yX11_nameOf cX11_nameOf 1 (.object "java/lang/String") rm_c_nameOf6 D G b0 f [.int x] (fun r f1 => r = some (G (20 + 6)) ∧ f = f1) := by
  refine met2 (own := RX11) (by decide) rfl (Nat.le_of_ble_eq_true rfl) ?_
  intro p e s m args below meth c ls Q hQ C hr hini hl h
  have hl : lv_has ls 1 [(0, .int x)] := hl
  obtain ⟨hx, hb, hml, hown, hts, hE0, hlk⟩ := id C
  have hvk := hE0.2.2.2.2.2.2.2.2.2.1
  refine lv_iload_n hx hb dX11_nameOf_0 rfl (lv_at hl 0 rfl) ?_
  subst hx9
  refine lv_tableIn (tgt := 62) hx hb dX11_nameOf_1 (by decide) (by decide) (off := 61) (by rfl) (by decide) ?_
  refine va_ldcS hx hb hown (hE0.2.2.2.2.2.2.2.2.1 ("QuarterWalksModel", 130, "w", 6) (by decide)) dX11_nameOf_62 ?_
  exact u_aret C h hr (Or.inl ⟨_, rfl⟩) hQ (v := some (G (20 + 6))) ⟨rfl, rfl⟩ (Nat.le_of_ble_eq_true rfl) (Nat.le_of_ble_eq_true rfl) rfl dX11_nameOf_64
abbrev rm_c_nameOf7 : Room := { frames := 0, cells := 0, slots := 0, locals := 0 }
set_option maxRecDepth 100000 in
theorem c_nameOf7 (l : Launch) (D : va_G) (G : Nat → Nat) (b0 : Nat) (f : hM) (x : Int32) (hx9 : x = 7) : mQ l yX11_nameOf cX11_nameOf 1 (.object "java/lang/String") rm_c_nameOf7 D G b0 f [.int x] (fun r f1 => r = some (G (20 + 7)) ∧ f = f1) := by
  refine met2 (own := RX11) (by decide) rfl (Nat.le_of_ble_eq_true rfl) ?_
  intro p e s m args below meth c ls Q hQ C hr hini hl h
  have hl : lv_has ls 1 [(0, .int x)] := hl
  obtain ⟨hx, hb, hml, hown, hts, hE0, hlk⟩ := id C
  have hvk := hE0.2.2.2.2.2.2.2.2.2.1
  refine lv_iload_n hx hb dX11_nameOf_0 rfl (lv_at hl 0 rfl) ?_
  subst hx9
  refine lv_tableOut (tgt := 65) hx hb dX11_nameOf_1 (by decide) (by decide) ?_
  refine va_ldcS hx hb hown (hE0.2.2.2.2.2.2.2.2.1 ("QuarterWalksModel", 132, "nw", 7) (by decide)) dX11_nameOf_65 ?_
  exact u_aret C h hr (Or.inl ⟨_, rfl⟩) hQ (v := some (G (20 + 7))) ⟨rfl, rfl⟩ (Nat.le_of_ble_eq_true rfl) (Nat.le_of_ble_eq_true rfl) rfl dX11_nameOf_67
