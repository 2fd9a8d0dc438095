theorem dJ4_append_cf468_0 : decode cJ4_append_cf468 0 = .ok (.aload_n 0, 1) := by decide +kernel
theorem dJ4_append_cf468_1 : decode cJ4_append_cf468 1 = .ok (.iload_n 1, 1) := by decide +kernel
theorem dJ4_append_cf468_2 : decode cJ4_append_cf468 2 = .ok (.invokespecial 50, 3) := by decide +kernel
theorem w_1165 : Cond.methodLink "java/lang/StringBuilder" 50 yJ5_append_3fe6f ∈ wAll := wI5 110 (by decide +kernel) (by decide +kernel)
theorem mk_J5_append_3fe6f : mk yJ5_append_3fe6f 1 := ⟨by decide +kernel, w_106⟩
theorem w_1166 : Cond.instanceMethod yJ5_append_3fe6f ∈ wAll := wI5 111 (by decide +kernel) (by decide +kernel)
theorem w_2063 : Cond.sameMethod yJ5_append_3fe6f.cls yJ5_append_3fe6f.cls yJ5_append_3fe6f.name yJ5_append_3fe6f.desc ∈ wAll := wI9 48 (by decide +kernel) (by decide +kernel)
theorem w_377 : Cond.superclass "java/lang/StringBuilder" "java/lang/AbstractStringBuilder" ∈ wAll := wI2 42 (by decide +kernel) (by decide +kernel)
theorem w_1167 : Cond.code yJ5_append_3fe6f cJ5_append_3fe6f 2 (some (.object "java/lang/AbstractStringBuilder")) ∈ wAll := wI5 112 (by decide +kernel) (by decide +kernel)
theorem dJ4_append_cf468_5 : decode cJ4_append_cf468 5 = .ok (.pop, 1) := by decide +kernel
theorem dJ4_append_cf468_6 : decode cJ4_append_cf468 6 = .ok (.aload_n 0, 1) := by decide +kernel
theorem dJ4_append_cf468_7 : decode cJ4_append_cf468 7 = .ok (.areturn, 1) := by decide +kernel
theorem dJ4_append_bf812_0 : decode cJ4_append_bf812 0 = .ok (.aload_n 0, 1) := by decide +kernel
theorem dJ4_append_bf812_1 : decode cJ4_append_bf812 1 = .ok (.iload_n 1, 1) := by decide +kernel
theorem dJ4_append_bf812_2 : decode cJ4_append_bf812 2 = .ok (.invokespecial 53, 3) := by decide +kernel
theorem w_1206 : Cond.methodLink "java/lang/StringBuilder" 53 yJ5_append_c97b9 ∈ wAll := wI5 151 (by decide +kernel) (by decide +kernel)
theorem mk_J5_append_c97b9 : mk yJ5_append_c97b9 1 := ⟨by decide +kernel, w_106⟩
theorem w_1207 : Cond.instanceMethod yJ5_append_c97b9 ∈ wAll := wI5 152 (by decide +kernel) (by decide +kernel)
theorem w_2065 : Cond.sameMethod yJ5_append_c97b9.cls yJ5_append_c97b9.cls yJ5_append_c97b9.name yJ5_append_c97b9.desc ∈ wAll := wI9 50 (by decide +kernel) (by decide +kernel)
theorem w_1208 : Cond.code yJ5_append_c97b9 cJ5_append_c97b9 4 (some (.object "java/lang/AbstractStringBuilder")) ∈ wAll := wI5 153 (by decide +kernel) (by decide +kernel)
theorem dJ4_append_bf812_5 : decode cJ4_append_bf812 5 = .ok (.pop, 1) := by decide +kernel
theorem dJ4_append_bf812_6 : decode cJ4_append_bf812 6 = .ok (.aload_n 0, 1) := by decide +kernel
theorem dJ4_append_bf812_7 : decode cJ4_append_bf812 7 = .ok (.areturn, 1) := by decide +kernel
theorem dJ4_append_15ec4_0 : decode cJ4_append_15ec4 0 = .ok (.aload_n 0, 1) := by decide +kernel
theorem dJ4_append_15ec4_1 : decode cJ4_append_15ec4 1 = .ok (.aload_n 1, 1) := by decide +kernel
theorem dJ4_append_15ec4_2 : decode cJ4_append_15ec4 2 = .ok (.invokespecial 29, 3) := by decide +kernel
theorem w_1241 : Cond.methodLink "java/lang/StringBuilder" 29 yJ5_append_cf1ce ∈ wAll := wI5 186 (by decide +kernel) (by decide +kernel)
theorem mk_J5_append_cf1ce : mk yJ5_append_cf1ce 1 := ⟨by decide +kernel, w_106⟩
theorem w_1242 : Cond.instanceMethod yJ5_append_cf1ce ∈ wAll := wI5 187 (by decide +kernel) (by decide +kernel)
theorem w_2066 : Cond.sameMethod yJ5_append_cf1ce.cls yJ5_append_cf1ce.cls yJ5_append_cf1ce.name yJ5_append_cf1ce.desc ∈ wAll := wI9 51 (by decide +kernel) (by decide +kernel)
theorem w_1243 : Cond.code yJ5_append_cf1ce cJ5_append_cf1ce 3 (some (.object "java/lang/AbstractStringBuilder")) ∈ wAll := wI5 188 (by decide +kernel) (by decide +kernel)
theorem dJ4_append_15ec4_5 : decode cJ4_append_15ec4 5 = .ok (.pop, 1) := by decide +kernel
theorem dJ4_append_15ec4_6 : decode cJ4_append_15ec4 6 = .ok (.aload_n 0, 1) := by decide +kernel
theorem dJ4_append_15ec4_7 : decode cJ4_append_15ec4 7 = .ok (.areturn, 1) := by decide +kernel
theorem dJ4_length_8abf5_0 : decode cJ4_length_8abf5 0 = .ok (.aload_n 0, 1) := by decide +kernel
theorem dJ4_length_8abf5_1 : decode cJ4_length_8abf5 1 = .ok (.invokespecial 343, 3) := by decide +kernel
theorem w_1158 : Cond.methodLink "java/lang/StringBuilder" 343 yJ5_length_8abf5 ∈ wAll := wI5 103 (by decide +kernel) (by decide +kernel)
theorem mk_J5_length_8abf5 : mk yJ5_length_8abf5 0 := ⟨by decide +kernel, w_106⟩
theorem w_1159 : Cond.instanceMethod yJ5_length_8abf5 ∈ wAll := wI5 104 (by decide +kernel) (by decide +kernel)
theorem w_2062 : Cond.sameMethod yJ5_length_8abf5.cls yJ5_length_8abf5.cls yJ5_length_8abf5.name yJ5_length_8abf5.desc ∈ wAll := wI9 47 (by decide +kernel) (by decide +kernel)
theorem w_1160 : Cond.code yJ5_length_8abf5 cJ5_length_8abf5 1 (some .int) ∈ wAll := wI5 105 (by decide +kernel) (by decide +kernel)
theorem dJ4_length_8abf5_4 : decode cJ4_length_8abf5 4 = .ok (.ireturn, 1) := by decide +kernel
theorem dJ4_charAt_5068e_0 : decode cJ4_charAt_5068e 0 = .ok (.aload_n 0, 1) := by decide +kernel
theorem dJ4_charAt_5068e_1 : decode cJ4_charAt_5068e 1 = .ok (.iload_n 1, 1) := by decide +kernel
theorem dJ4_charAt_5068e_2 : decode cJ4_charAt_5068e 2 = .ok (.invokespecial 329, 3) := by decide +kernel
theorem w_1279 : Cond.methodLink "java/lang/StringBuilder" 329 yJ5_charAt_5068e ∈ wAll := wI5 224 (by decide +kernel) (by decide +kernel)
theorem mk_J5_charAt_5068e : mk yJ5_charAt_5068e 1 := ⟨by decide +kernel, w_106⟩
theorem w_1280 : Cond.instanceMethod yJ5_charAt_5068e ∈ wAll := wI5 225 (by decide +kernel) (by decide +kernel)
theorem w_2070 : Cond.sameMethod yJ5_charAt_5068e.cls yJ5_charAt_5068e.cls yJ5_charAt_5068e.name yJ5_charAt_5068e.desc ∈ wAll := wI9 55 (by decide +kernel) (by decide +kernel)
theorem w_1281 : Cond.code yJ5_charAt_5068e cJ5_charAt_5068e 5 (some .char) ∈ wAll := wI5 226 (by decide +kernel) (by decide +kernel)
theorem dJ4_charAt_5068e_5 : decode cJ4_charAt_5068e 5 = .ok (.ireturn, 1) := by decide +kernel
abbrev rm_s_J4_append_cf468X : Room := { frames := 5, cells := 1, slots := 100, locals := 125 }
set_option maxRecDepth 100000 in
set_option maxHeartbeats 4000000 in
theorem s_J4_append_cf468X (l : Launch) (D : va_G) (G : Nat → Nat) (b0 : Nat) (τ : Nat → Nat) (f : hM) (t : TI G 9 τ f) (u0 : Nat) (hu0 : τ u0 = 52) (u1 : Int32) (hu1 : iv u1 0 255) (ct : Int32) (hct : iv ct 0 49) (k_u0_3 : atp f u0 (fd 3 (.int ct))) (hCP : CPs G τ f u0) : mQ l yJ4_append_cf468 cJ4_append_cf468 2 (.object "java/lang/StringBuilder") rm_s_J4_append_cf468X D G b0 f [.ref u0, .int u1] (fun r f1 => (∃ τ1, Ex τ τ1 ∧ (∃ z, r = some z ∧ τ1 z = 52) ∧ TI G 9 τ1 f1 ∧ Fr [0, 52, 53, 52001, 52004] τ f f1 ∧ (∃ ct1 : Int32, atp f1 u0 (fd 3 (.int ct1)) ∧ iv ct1 0 50 ∧ ct1.toInt = ct.toInt + 1) ∧ CPs G τ1 f1 u0)) := by
  refine met2 (own := RJ4) (by decide) rfl (Nat.le_of_ble_eq_true rfl) ?_
  intro p e s m args below meth c ls Q hQ C hr hini hl h
  have hl : lv_has ls 2 [(0, .ref u0), (1, .int u1)] := hl
  obtain ⟨hx, hb, hml, hown, hts, hE0, hlk⟩ := id C
  have o := Fr.rf [0, 52, 53, 52001, 52004] τ f
  refine lv_aload_n hx hb dJ4_append_cf468_0 rfl (lv_at hl 0 rfl) ?_
  refine lv_iload_n hx hb dJ4_append_cf468_1 rfl (lv_at hl 1 rfl) ?_
  obtain ⟨_, ra_1⟩ := t_rec t hu0 (by decide) wf_52
  refine k_q (r_U C h hl (As := [.int u1]) (rest := []) (s_J5_append_3fe6fX l D G b0 τ f t u0 hu0 u1 hu1 ct hct k_u0_3 hCP) ra_1 (Cn := RJ4) (T := TJ4) (N := 4) rfl rfl mk_J5_append_3fe6f (by decide) w_1165 w_1166 w_2063 w_377 w_1167 ⟨Nat.le_of_ble_eq_true rfl, Nat.le_of_ble_eq_true rfl⟩ rfl (Nat.le_of_ble_eq_true rfl) ⟨Nat.le_of_ble_eq_true rfl, Nat.le_of_ble_eq_true rfl⟩ rfl dJ4_append_cf468_2) h (fun ra_2 fa_3 H locs pa_4 h => ?_)
  obtain ⟨τfa_3, exfa_3, qra_2, tfa_3, ogfa_3, ⟨ct1_fa_3, kpu0_3fa_3, ipu0_3fa_3, rpu0_3fa_3⟩, cpfa_3⟩ := pa_4
  have ofa_3 : Fr [0, 52, 53, 52001, 52004] τ f fa_3 := Fr.tr o ogfa_3 (by decide) (by decide)
  have Ofa_3 : Fr [0, 52, 53, 52001, 52004] τ f fa_3 := ofa_3
  have xfa_3 : Ex τ τfa_3 := exfa_3
  have ha_5 : τfa_3 u0 = 52 := Ex.at exfa_3 hu0 (by decide)
  have ofa_3z := Fr.rf [0, 52, 53, 52001, 52004] τfa_3 fa_3
  obtain ⟨qa_6, rfl, tqa_6⟩ := qra_2
  refine lv_pop hx hb dJ4_append_cf468_5 rfl ?_
  refine lv_aload_n hx hb dJ4_append_cf468_6 rfl (lv_at hl 0 rfl) ?_
  exact u_aret C h hr (Or.inl ⟨_, rfl⟩) hQ (v := some u0) (⟨τfa_3, xfa_3, ⟨_, rfl, ha_5⟩, tfa_3, (Fr.tr Ofa_3 (Fr.cv xfa_3 ofa_3z (by decide) (fun _ h_ => h_)) (fun _ h_ => h_) (fun _ h_ => h_)), ⟨ct1_fa_3, kpu0_3fa_3, ipu0_3fa_3, (by omega)⟩, cpfa_3⟩) (Nat.le_of_ble_eq_true rfl) (Nat.le_of_ble_eq_true rfl) rfl dJ4_append_cf468_7
abbrev rm_s_J4_append_bf812X : Room := { frames := 5, cells := 1, slots := 100, locals := 127 }
set_option maxRecDepth 100000 in
set_option maxHeartbeats 4000000 in
theorem s_J4_append_bf812X (l : Launch) (D : va_G) (G : Nat → Nat) (b0 : Nat) (τ : Nat → Nat) (f : hM) (t : TI G 9 τ f) (u0 : Nat) (hu0 : τ u0 = 52) (u1 : Int32) (hu1 : iv u1 0 9) (ct : Int32) (hct : iv ct 0 49) (k_u0_3 : atp f u0 (fd 3 (.int ct))) (hCP : CPs G τ f u0) : mQ l yJ4_append_bf812 cJ4_append_bf812 2 (.object "java/lang/StringBuilder") rm_s_J4_append_bf812X D G b0 f [.ref u0, .int u1] (fun r f1 => (∃ τ1, Ex τ τ1 ∧ (∃ z, r = some z ∧ τ1 z = 52) ∧ TI G 9 τ1 f1 ∧ Fr [0, 52, 53, 52001, 52004] τ f f1 ∧ (∃ ct1 : Int32, atp f1 u0 (fd 3 (.int ct1)) ∧ iv ct1 0 50 ∧ ct1.toInt = ct.toInt + 1) ∧ CPs G τ1 f1 u0)) := by
  refine met2 (own := RJ4) (by decide) rfl (Nat.le_of_ble_eq_true rfl) ?_
  intro p e s m args below meth c ls Q hQ C hr hini hl h
  have hl : lv_has ls 2 [(0, .ref u0), (1, .int u1)] := hl
  obtain ⟨hx, hb, hml, hown, hts, hE0, hlk⟩ := id C
  have o := Fr.rf [0, 52, 53, 52001, 52004] τ f
  refine lv_aload_n hx hb dJ4_append_bf812_0 rfl (lv_at hl 0 rfl) ?_
  refine lv_iload_n hx hb dJ4_append_bf812_1 rfl (lv_at hl 1 rfl) ?_
  obtain ⟨_, ra_1⟩ := t_rec t hu0 (by decide) wf_52
  refine k_q (r_U C h hl (As := [.int u1]) (rest := []) (s_J5_append_c97b9X l D G b0 τ f t u0 hu0 u1 hu1 ct hct k_u0_3 hCP) ra_1 (Cn := RJ4) (T := TJ4) (N := 4) rfl rfl mk_J5_append_c97b9 (by decide) w_1206 w_1207 w_2065 w_377 w_1208 ⟨Nat.le_of_ble_eq_true rfl, Nat.le_of_ble_eq_true rfl⟩ rfl (Nat.le_of_ble_eq_true rfl) ⟨Nat.le_of_ble_eq_true rfl, Nat.le_of_ble_eq_true rfl⟩ rfl dJ4_append_bf812_2) h (fun ra_2 fa_3 H locs pa_4 h => ?_)
  obtain ⟨τfa_3, exfa_3, qra_2, tfa_3, ogfa_3, ⟨ct1_fa_3, kpu0_3fa_3, ipu0_3fa_3, rpu0_3fa_3⟩, cpfa_3⟩ := pa_4
  have ofa_3 : Fr [0, 52, 53, 52001, 52004] τ f fa_3 := Fr.tr o ogfa_3 (by decide) (by decide)
  have Ofa_3 : Fr [0, 52, 53, 52001, 52004] τ f fa_3 := ofa_3
  have xfa_3 : Ex τ τfa_3 := exfa_3
  have ha_5 : τfa_3 u0 = 52 := Ex.at exfa_3 hu0 (by decide)
  have ofa_3z := Fr.rf [0, 52, 53, 52001, 52004] τfa_3 fa_3
  obtain ⟨qa_6, rfl, tqa_6⟩ := qra_2
  refine lv_pop hx hb dJ4_append_bf812_5 rfl ?_
  refine lv_aload_n hx hb dJ4_append_bf812_6 rfl (lv_at hl 0 rfl) ?_
  exact u_aret C h hr (Or.inl ⟨_, rfl⟩) hQ (v := some u0) (⟨τfa_3, xfa_3, ⟨_, rfl, ha_5⟩, tfa_3, (Fr.tr Ofa_3 (Fr.cv xfa_3 ofa_3z (by decide) (fun _ h_ => h_)) (fun _ h_ => h_) (fun _ h_ => h_)), ⟨ct1_fa_3, kpu0_3fa_3, ipu0_3fa_3, (by omega)⟩, cpfa_3⟩) (Nat.le_of_ble_eq_true rfl) (Nat.le_of_ble_eq_true rfl) rfl dJ4_append_bf812_7
abbrev rm_s_J4_append_15ec4X : Room := { frames := 5, cells := 1, slots := 100, locals := 127 }
set_option maxRecDepth 100000 in
set_option maxHeartbeats 4000000 in
theorem s_J4_append_15ec4X (l : Launch) (D : va_G) (G : Nat → Nat) (b0 : Nat) (τ : Nat → Nat) (f : hM) (t : TI G 9 τ f) (u0 : Nat) (hu0 : τ u0 = 52) (ct : Int32) (hct : iv ct 0 43) (k_u0_3 : atp f u0 (fd 3 (.int ct))) (hCP : CPs G τ f u0) : mQ l yJ4_append_15ec4 cJ4_append_15ec4 2 (.object "java/lang/StringBuilder") rm_s_J4_append_15ec4X D G b0 f [.ref u0, .ref (G (20 + 10))] (fun r f1 => (∃ τ1, Ex τ τ1 ∧ (∃ z, r = some z ∧ τ1 z = 52) ∧ TI G 9 τ1 f1 ∧ Fr [0, 52, 53, 52001, 52004] τ f f1 ∧ (∃ ct1 : Int32, atp f1 u0 (fd 3 (.int ct1)) ∧ iv ct1 0 50 ∧ ct1.toInt = ct.toInt + 7) ∧ CPs G τ1 f1 u0)) := by
  refine met2 (own := RJ4) (by decide) rfl (Nat.le_of_ble_eq_true rfl) ?_
  intro p e s m args below meth c ls Q hQ C hr hini hl h
  have hl : lv_has ls 2 [(0, .ref u0), (1, .ref (G (20 + 10)))] := hl
  obtain ⟨hx, hb, hml, hown, hts, hE0, hlk⟩ := id C
  have o := Fr.rf [0, 52, 53, 52001, 52004] τ f
  refine lv_aload_n hx hb dJ4_append_15ec4_0 rfl (lv_at hl 0 rfl) ?_
  refine lv_aload_n hx hb dJ4_append_15ec4_1 rfl (lv_at hl 1 rfl) ?_
  obtain ⟨_, ra_1⟩ := t_rec t hu0 (by decide) wf_52
  refine k_q (r_U C h hl (As := [.ref (G (20 + 10))]) (rest := []) (s_J5_append_cf1ceX l D G b0 τ f t u0 hu0 ct hct k_u0_3 hCP) ra_1 (Cn := RJ4) (T := TJ4) (N := 4) rfl rfl mk_J5_append_cf1ce (by decide) w_1241 w_1242 w_2066 w_377 w_1243 ⟨Nat.le_of_ble_eq_true rfl, Nat.le_of_ble_eq_true rfl⟩ rfl (Nat.le_of_ble_eq_true rfl) ⟨Nat.le_of_ble_eq_true rfl, Nat.le_of_ble_eq_true rfl⟩ rfl dJ4_append_15ec4_2) h (fun ra_2 fa_3 H locs pa_4 h => ?_)
  obtain ⟨τfa_3, exfa_3, qra_2, tfa_3, ogfa_3, ⟨ct1_fa_3, kpu0_3fa_3, ipu0_3fa_3, rpu0_3fa_3⟩, cpfa_3⟩ := pa_4
  have ofa_3 : Fr [0, 52, 53, 52001, 52004] τ f fa_3 := Fr.tr o ogfa_3 (by decide) (by decide)
  have Ofa_3 : Fr [0, 52, 53, 52001, 52004] τ f fa_3 := ofa_3
  have xfa_3 : Ex τ τfa_3 := exfa_3
  have ha_5 : τfa_3 u0 = 52 := Ex.at exfa_3 hu0 (by decide)
  have ofa_3z := Fr.rf [0, 52, 53, 52001, 52004] τfa_3 fa_3
  obtain ⟨qa_6, rfl, tqa_6⟩ := qra_2
  refine lv_pop hx hb dJ4_append_15ec4_5 rfl ?_
  refine lv_aload_n hx hb dJ4_append_15ec4_6 rfl (lv_at hl 0 rfl) ?_
  exact u_aret C h hr (Or.inl ⟨_, rfl⟩) hQ (v := some u0) (⟨τfa_3, xfa_3, ⟨_, rfl, ha_5⟩, tfa_3, (Fr.tr Ofa_3 (Fr.cv xfa_3 ofa_3z (by decide) (fun _ h_ => h_)) (fun _ h_ => h_) (fun _ h_ => h_)), ⟨ct1_fa_3, kpu0_3fa_3, ipu0_3fa_3, (by omega)⟩, cpfa_3⟩) (Nat.le_of_ble_eq_true rfl) (Nat.le_of_ble_eq_true rfl) rfl dJ4_append_15ec4_7
abbrev rm_s_J4_length_8abf5X : Room := { frames := 1, cells := 0, slots := 0, locals := 20 }
set_option maxRecDepth 100000 in
set_option maxHeartbeats 4000000 in
theorem s_J4_length_8abf5X (l : Launch) (D : va_G) (G : Nat → Nat) (b0 : Nat) (τ : Nat → Nat) (f : hM) (t : TI G 9 τ f) (u0 : Nat) (hu0 : τ u0 = 52) (ct : Int32) (hct : iv ct 0 50) (k_u0_3 : atp f u0 (fd 3 (.int ct))) : mI l yJ4_length_8abf5 cJ4_length_8abf5 1 (.int) rm_s_J4_length_8abf5X D G b0 f [.ref u0] (fun r f1 => iv r 0 50 ∧ TI G 9 τ f1 ∧ Fr [] τ f f1 ∧ (r.toInt = ct.toInt)) := by
  refine met2 (own := RJ4) (by decide) rfl (Nat.le_of_ble_eq_true rfl) ?_
  intro p e s m args below meth c ls Q hQ C hr hini hl h
  have hl : lv_has ls 1 [(0, .ref u0)] := hl
  obtain ⟨hx, hb, hml, hown, hts, hE0, hlk⟩ := id C
  have o := Fr.rf [] τ f
  refine lv_aload_n hx hb dJ4_length_8abf5_0 rfl (lv_at hl 0 rfl) ?_
  obtain ⟨_, r1⟩ := t_rec t hu0 (by decide) wf_52
  refine k_i (r_U C h hl (As := []) (rest := []) (s_J5_length_8abf5X l D G b0 τ f t u0 hu0 ct hct k_u0_3) r1 (Cn := RJ4) (T := TJ4) (N := 4) rfl rfl mk_J5_length_8abf5 (by decide) w_1158 w_1159 w_2062 w_377 w_1160 ⟨Nat.le_of_ble_eq_true rfl, Nat.le_of_ble_eq_true rfl⟩ rfl (Nat.le_of_ble_eq_true rfl) ⟨Nat.le_of_ble_eq_true rfl, Nat.le_of_ble_eq_true rfl⟩ rfl dJ4_length_8abf5_1) h (fun r2 f3 H locs p4 h => ?_)
  obtain ⟨ir2, tf3, ogf3, x0r2⟩ := p4
  have egf3 := Fr.nil2 ogf3
  subst egf3
  exact u_iret C h hr hQ (⟨ir2, t, o, (by omega)⟩) (Nat.le_of_ble_eq_true rfl) (Nat.le_of_ble_eq_true rfl) dJ4_length_8abf5_4
abbrev rm_s_J4_charAt_5068eX : Room := { frames := 3, cells := 0, slots := 0, locals := 67 }
set_option maxRecDepth 100000 in
set_option maxHeartbeats 4000000 in
theorem s_J4_charAt_5068eX (l : Launch) (D : va_G) (G : Nat → Nat) (b0 : Nat) (τ : Nat → Nat) (f : hM) (t : TI G 9 τ f) (u0 : Nat) (hu0 : τ u0 = 52) (u1 : Int32) (hu1 : iv u1 0 49) (ct : Int32) (hct : iv ct 0 50) (k_u0_3 : atp f u0 (fd 3 (.int ct))) (hCP : CPs G τ f u0) (hr0 : u1.toInt < ct.toInt) : mI l yJ4_charAt_5068e cJ4_charAt_5068e 2 (.char) rm_s_J4_charAt_5068eX D G b0 f [.ref u0, .int u1] (fun r f1 => iv r 0 255 ∧ TI G 9 τ f1 ∧ Fr [] τ f f1 ∧ CPs G τ f1 u0) := by
  refine met2 (own := RJ4) (by decide) rfl (Nat.le_of_ble_eq_true rfl) ?_
  intro p e s m args below meth c ls Q hQ C hr hini hl h
  have hl : lv_has ls 2 [(0, .ref u0), (1, .int u1)] := hl
  obtain ⟨hx, hb, hml, hown, hts, hE0, hlk⟩ := id C
  have o := Fr.rf [] τ f
  refine lv_aload_n hx hb dJ4_charAt_5068e_0 rfl (lv_at hl 0 rfl) ?_
  refine lv_iload_n hx hb dJ4_charAt_5068e_1 rfl (lv_at hl 1 rfl) ?_
  obtain ⟨_, r1⟩ := t_rec t hu0 (by decide) wf_52
  refine k_i (r_U C h hl (As := [.int u1]) (rest := []) (s_J5_charAt_5068eX l D G b0 τ f t u0 hu0 u1 hu1 ct hct k_u0_3 hCP (by omega)) r1 (Cn := RJ4) (T := TJ4) (N := 4) rfl rfl mk_J5_charAt_5068e (by decide) w_1279 w_1280 w_2070 w_377 w_1281 ⟨Nat.le_of_ble_eq_true rfl, Nat.le_of_ble_eq_true rfl⟩ rfl (Nat.le_of_ble_eq_true rfl) ⟨Nat.le_of_ble_eq_true rfl, Nat.le_of_ble_eq_true rfl⟩ rfl dJ4_charAt_5068e_2) h (fun r2 f3 H locs p4 h => ?_)
  obtain ⟨ir2, tf3, ogf3, cpf3⟩ := p4
  have egf3 := Fr.nil2 ogf3
  subst egf3
  exact u_cret C h hr hQ (nar_c ir2 (by decide)) (⟨ir2, t, o, hCP⟩) (Nat.le_of_ble_eq_true rfl) (Nat.le_of_ble_eq_true rfl) dJ4_charAt_5068e_5
